/-! THE SMALL MACHINE: a world of typed cells; mW: from here the method ends with Φ -/
def mTs : List Cond := lw_tbl.filter goodWord
theorem mTs_in {w : Cond} (i : Nat) (h : lw_tbl[i]? = some w) (g : goodWord w = true) : w ∈ mTs := List.mem_filter.mpr ⟨List.mem_of_getElem? h, g⟩
theorem mTs_good {L : List Cond} (h : ∀ w ∈ L, w ∈ mTs) : GoodIn mTs L := fun w hw => ⟨h w hw, good_of_word (List.mem_filter.mp (h w hw)).2⟩
theorem mTs_of {L : List Cond} (h : GoodIn lw_tbl L) (g : L.all goodWord = true) : ∀ w ∈ L, w ∈ mTs := fun w hw => List.mem_filter.mpr ⟨(h w hw).1, List.all_eq_true.mp g w hw⟩
abbrev mH : Type := Nat × (Nat → Nat × Nat) × (Nat → Nat → Int32) × (Nat → Nat → Int64) × (Nat → Nat → Option Nat) × (Nat → Nat → Int32) × (Nat → Nat → Int64) × (Nat → Nat → Option Nat)
def hN (w : mH) : Nat := w.1
def hk (w : mH) : Nat → Nat × Nat := w.2.1
def hfi (w : mH) : Nat → Nat → Int32 := w.2.2.1
def hfl (w : mH) : Nat → Nat → Int64 := w.2.2.2.1
def hfr (w : mH) : Nat → Nat → Option Nat := w.2.2.2.2.1
def hai (w : mH) : Nat → Nat → Int32 := w.2.2.2.2.2.1
def hal (w : mH) : Nat → Nat → Int64 := w.2.2.2.2.2.2.1
def har (w : mH) : Nat → Nat → Option Nat := w.2.2.2.2.2.2.2
def up2 {α : Type} (f : Nat → Nat → α) (a k : Nat) (v : α) : Nat → Nat → α := fun b j => if b = a ∧ j = k then v else f b j
theorem up2_at {α : Type} (f : Nat → Nat → α) (a k : Nat) (v : α) : up2 f a k v a k = v := by simp [up2]
theorem up2_k {α : Type} (f : Nat → Nat → α) {a k j : Nat} (v : α) (b : Nat) (h : j ≠ k) : up2 f a k v b j = f b j := by simp [up2, h]
theorem up2_a {α : Type} (f : Nat → Nat → α) {a b : Nat} (k : Nat) (v : α) (h : b ≠ a) : up2 f a k v b = f b := by funext j; simp [up2, h]
theorem up2_row (f : Nat → Nat → Int32) (a k : Nat) (v : Int32) : up2 f a k v a = upd (f a) k v := by funext j; simp [up2, upd]
theorem up2_rowL (f : Nat → Nat → Int64) (a k : Nat) (v : Int64) : up2 f a k v a = vp_updL (f a) k v := by funext j; simp [up2, vp_updL]
theorem up2_rowR (f : Nat → Nat → Option Nat) (a k : Nat) (v : Option Nat) : up2 f a k v a = va_up (f a) k v := by funext j; simp [up2, va_up]
def sfi (w : mH) (a k : Nat) (v : Int32) : mH := (hN w, hk w, up2 (hfi w) a k v, hfl w, hfr w, hai w, hal w, har w)
theorem hN_sfi (w : mH) (a k : Nat) (v : Int32) : hN (sfi w a k v) = hN w := rfl
theorem hk_sfi (w : mH) (a k : Nat) (v : Int32) : hk (sfi w a k v) = hk w := rfl
theorem hfi_sfi (w : mH) (a k : Nat) (v : Int32) : hfi (sfi w a k v) = up2 (hfi w) a k v := rfl
theorem hfl_sfi (w : mH) (a k : Nat) (v : Int32) : hfl (sfi w a k v) = hfl w := rfl
theorem hfr_sfi (w : mH) (a k : Nat) (v : Int32) : hfr (sfi w a k v) = hfr w := rfl
theorem hai_sfi (w : mH) (a k : Nat) (v : Int32) : hai (sfi w a k v) = hai w := rfl
theorem hal_sfi (w : mH) (a k : Nat) (v : Int32) : hal (sfi w a k v) = hal w := rfl
theorem har_sfi (w : mH) (a k : Nat) (v : Int32) : har (sfi w a k v) = har w := rfl
def sfl (w : mH) (a k : Nat) (v : Int64) : mH := (hN w, hk w, hfi w, up2 (hfl w) a k v, hfr w, hai w, hal w, har w)
theorem hN_sfl (w : mH) (a k : Nat) (v : Int64) : hN (sfl w a k v) = hN w := rfl
theorem hk_sfl (w : mH) (a k : Nat) (v : Int64) : hk (sfl w a k v) = hk w := rfl
theorem hfi_sfl (w : mH) (a k : Nat) (v : Int64) : hfi (sfl w a k v) = hfi w := rfl
theorem hfl_sfl (w : mH) (a k : Nat) (v : Int64) : hfl (sfl w a k v) = up2 (hfl w) a k v := rfl
theorem hfr_sfl (w : mH) (a k : Nat) (v : Int64) : hfr (sfl w a k v) = hfr w := rfl
theorem hai_sfl (w : mH) (a k : Nat) (v : Int64) : hai (sfl w a k v) = hai w := rfl
theorem hal_sfl (w : mH) (a k : Nat) (v : Int64) : hal (sfl w a k v) = hal w := rfl
theorem har_sfl (w : mH) (a k : Nat) (v : Int64) : har (sfl w a k v) = har w := rfl
def sfr (w : mH) (a k : Nat) (v : Option Nat) : mH := (hN w, hk w, hfi w, hfl w, up2 (hfr w) a k v, hai w, hal w, har w)
theorem hN_sfr (w : mH) (a k : Nat) (v : Option Nat) : hN (sfr w a k v) = hN w := rfl
theorem hk_sfr (w : mH) (a k : Nat) (v : Option Nat) : hk (sfr w a k v) = hk w := rfl
theorem hfi_sfr (w : mH) (a k : Nat) (v : Option Nat) : hfi (sfr w a k v) = hfi w := rfl
theorem hfl_sfr (w : mH) (a k : Nat) (v : Option Nat) : hfl (sfr w a k v) = hfl w := rfl
theorem hfr_sfr (w : mH) (a k : Nat) (v : Option Nat) : hfr (sfr w a k v) = up2 (hfr w) a k v := rfl
theorem hai_sfr (w : mH) (a k : Nat) (v : Option Nat) : hai (sfr w a k v) = hai w := rfl
theorem hal_sfr (w : mH) (a k : Nat) (v : Option Nat) : hal (sfr w a k v) = hal w := rfl
theorem har_sfr (w : mH) (a k : Nat) (v : Option Nat) : har (sfr w a k v) = har w := rfl
def sai (w : mH) (a k : Nat) (v : Int32) : mH := (hN w, hk w, hfi w, hfl w, hfr w, up2 (hai w) a k v, hal w, har w)
theorem hN_sai (w : mH) (a k : Nat) (v : Int32) : hN (sai w a k v) = hN w := rfl
theorem hk_sai (w : mH) (a k : Nat) (v : Int32) : hk (sai w a k v) = hk w := rfl
theorem hfi_sai (w : mH) (a k : Nat) (v : Int32) : hfi (sai w a k v) = hfi w := rfl
theorem hfl_sai (w : mH) (a k : Nat) (v : Int32) : hfl (sai w a k v) = hfl w := rfl
theorem hfr_sai (w : mH) (a k : Nat) (v : Int32) : hfr (sai w a k v) = hfr w := rfl
theorem hai_sai (w : mH) (a k : Nat) (v : Int32) : hai (sai w a k v) = up2 (hai w) a k v := rfl
theorem hal_sai (w : mH) (a k : Nat) (v : Int32) : hal (sai w a k v) = hal w := rfl
theorem har_sai (w : mH) (a k : Nat) (v : Int32) : har (sai w a k v) = har w := rfl
def sal (w : mH) (a k : Nat) (v : Int64) : mH := (hN w, hk w, hfi w, hfl w, hfr w, hai w, up2 (hal w) a k v, har w)
theorem hN_sal (w : mH) (a k : Nat) (v : Int64) : hN (sal w a k v) = hN w := rfl
theorem hk_sal (w : mH) (a k : Nat) (v : Int64) : hk (sal w a k v) = hk w := rfl
theorem hfi_sal (w : mH) (a k : Nat) (v : Int64) : hfi (sal w a k v) = hfi w := rfl
theorem hfl_sal (w : mH) (a k : Nat) (v : Int64) : hfl (sal w a k v) = hfl w := rfl
theorem hfr_sal (w : mH) (a k : Nat) (v : Int64) : hfr (sal w a k v) = hfr w := rfl
theorem hai_sal (w : mH) (a k : Nat) (v : Int64) : hai (sal w a k v) = hai w := rfl
theorem hal_sal (w : mH) (a k : Nat) (v : Int64) : hal (sal w a k v) = up2 (hal w) a k v := rfl
theorem har_sal (w : mH) (a k : Nat) (v : Int64) : har (sal w a k v) = har w := rfl
def sar (w : mH) (a k : Nat) (v : Option Nat) : mH := (hN w, hk w, hfi w, hfl w, hfr w, hai w, hal w, up2 (har w) a k v)
theorem hN_sar (w : mH) (a k : Nat) (v : Option Nat) : hN (sar w a k v) = hN w := rfl
theorem hk_sar (w : mH) (a k : Nat) (v : Option Nat) : hk (sar w a k v) = hk w := rfl
theorem hfi_sar (w : mH) (a k : Nat) (v : Option Nat) : hfi (sar w a k v) = hfi w := rfl
theorem hfl_sar (w : mH) (a k : Nat) (v : Option Nat) : hfl (sar w a k v) = hfl w := rfl
theorem hfr_sar (w : mH) (a k : Nat) (v : Option Nat) : hfr (sar w a k v) = hfr w := rfl
theorem hai_sar (w : mH) (a k : Nat) (v : Option Nat) : hai (sar w a k v) = hai w := rfl
theorem hal_sar (w : mH) (a k : Nat) (v : Option Nat) : hal (sar w a k v) = hal w := rfl
theorem har_sar (w : mH) (a k : Nat) (v : Option Nat) : har (sar w a k v) = up2 (har w) a k v := rfl
/-- a whole row of ints anew -/
def sax (w : mH) (a : Nat) (g : Nat → Int32) : mH := (hN w, hk w, hfi w, hfl w, hfr w, va_up (hai w) a g, hal w, har w)
theorem hN_sax (w : mH) (a : Nat) (g : Nat → Int32) : hN (sax w a g) = hN w := rfl
theorem hk_sax (w : mH) (a : Nat) (g : Nat → Int32) : hk (sax w a g) = hk w := rfl
theorem hfi_sax (w : mH) (a : Nat) (g : Nat → Int32) : hfi (sax w a g) = hfi w := rfl
theorem hfl_sax (w : mH) (a : Nat) (g : Nat → Int32) : hfl (sax w a g) = hfl w := rfl
theorem hfr_sax (w : mH) (a : Nat) (g : Nat → Int32) : hfr (sax w a g) = hfr w := rfl
theorem hai_sax (w : mH) (a : Nat) (g : Nat → Int32) : hai (sax w a g) = va_up (hai w) a g := rfl
theorem hal_sax (w : mH) (a : Nat) (g : Nat → Int32) : hal (sax w a g) = hal w := rfl
theorem har_sax (w : mH) (a : Nat) (g : Nat → Int32) : har (sax w a g) = har w := rfl
/-- a new cell: kind kd, all zero -/
def snew (w : mH) (kd : Nat × Nat) : mH := (hN w + 1, va_up (hk w) (hN w) kd, va_up (hfi w) (hN w) (fun _ => 0), va_up (hfl w) (hN w) (fun _ => 0), va_up (hfr w) (hN w) (fun _ => none), va_up (hai w) (hN w) (fun _ => 0), va_up (hal w) (hN w) (fun _ => 0), va_up (har w) (hN w) (fun _ => none))
theorem hN_snew (w : mH) (kd : Nat × Nat) : hN (snew w kd) = hN w + 1 := rfl
theorem hk_snew (w : mH) (kd : Nat × Nat) : hk (snew w kd) = va_up (hk w) (hN w) kd := rfl
theorem hfi_snew (w : mH) (kd : Nat × Nat) : hfi (snew w kd) = va_up (hfi w) (hN w) (fun _ => 0) := rfl
theorem hfl_snew (w : mH) (kd : Nat × Nat) : hfl (snew w kd) = va_up (hfl w) (hN w) (fun _ => 0) := rfl
theorem hfr_snew (w : mH) (kd : Nat × Nat) : hfr (snew w kd) = va_up (hfr w) (hN w) (fun _ => none) := rfl
theorem hai_snew (w : mH) (kd : Nat × Nat) : hai (snew w kd) = va_up (hai w) (hN w) (fun _ => 0) := rfl
theorem hal_snew (w : mH) (kd : Nat × Nat) : hal (snew w kd) = va_up (hal w) (hN w) (fun _ => 0) := rfl
theorem har_snew (w : mH) (kd : Nat × Nat) : har (snew w kd) = va_up (har w) (hN w) (fun _ => none) := rfl
/-- the heap has grown by what nobody holds -/
def snn (w : mH) (n : Nat) : mH := (n, hk w, hfi w, hfl w, hfr w, hai w, hal w, har w)
theorem hN_snn (w : mH) (n : Nat) : hN (snn w n) = n := rfl
theorem hk_snn (w : mH) (n : Nat) : hk (snn w n) = hk w := rfl
theorem hfi_snn (w : mH) (n : Nat) : hfi (snn w n) = hfi w := rfl
theorem hfl_snn (w : mH) (n : Nat) : hfl (snn w n) = hfl w := rfl
theorem hfr_snn (w : mH) (n : Nat) : hfr (snn w n) = hfr w := rfl
theorem hai_snn (w : mH) (n : Nat) : hai (snn w n) = hai w := rfl
theorem hal_snn (w : mH) (n : Nat) : hal (snn w n) = hal w := rfl
theorem har_snn (w : mH) (n : Nat) : har (snn w n) = har w := rfl
def mOb (w : mH) (a : Nat) : Nat → List Value
  | 0 => [.int (hfi w a 0), va_rf (hfr w a 1), .long (hfl w a 2), .int (hfi w a 3)]
  | 1 => [va_rf (hfr w a 0), va_rf (hfr w a 1), va_rf (hfr w a 2)]
  | 2 => [va_rf (hfr w a 0), .int (hfi w a 1), .int (hfi w a 2)]
  | 3 => [va_rf (hfr w a 0), va_rf (hfr w a 1), va_rf (hfr w a 2), va_rf (hfr w a 3), va_rf (hfr w a 4)]
  | 4 => [va_rf (hfr w a 0), va_rf (hfr w a 1), va_rf (hfr w a 2), va_rf (hfr w a 3), va_rf (hfr w a 4), .int (hfi w a 5), .int (hfi w a 6), .int (hfi w a 7), .int (hfi w a 8), .int (hfi w a 9), .int (hfi w a 10)]
  | 5 => [va_rf (hfr w a 0), va_rf (hfr w a 1), .int (hfi w a 2)]
  | 6 => [va_rf (hfr w a 0), va_rf (hfr w a 1), va_rf (hfr w a 2), va_rf (hfr w a 3), va_rf (hfr w a 4), va_rf (hfr w a 5), .int (hfi w a 6)]
  | 7 => [va_rf (hfr w a 0), va_rf (hfr w a 1), va_rf (hfr w a 2), .int (hfi w a 3), va_rf (hfr w a 4), va_rf (hfr w a 5), va_rf (hfr w a 6), .int (hfi w a 7)]
  | 8 => [va_rf (hfr w a 0), .int (hfi w a 1), .int (hfi w a 2), va_rf (hfr w a 3), .int (hfi w a 4), .int (hfi w a 5)]
  | 9 => [va_rf (hfr w a 0), va_rf (hfr w a 1), va_rf (hfr w a 2), va_rf (hfr w a 3)]
  | 10 => [va_rf (hfr w a 0), va_rf (hfr w a 1), .int (hfi w a 2), va_rf (hfr w a 3), va_rf (hfr w a 4), va_rf (hfr w a 5), va_rf (hfr w a 6), va_rf (hfr w a 7), va_rf (hfr w a 8), va_rf (hfr w a 9), va_rf (hfr w a 10), va_rf (hfr w a 11)]
  | 11 => [.int (hfi w a 0), va_rf (hfr w a 1), va_rf (hfr w a 2), va_rf (hfr w a 3), va_rf (hfr w a 4), .int (hfi w a 5), .int (hfi w a 6), va_rf (hfr w a 7), .int (hfi w a 8), .int (hfi w a 9), .int (hfi w a 10), va_rf (hfr w a 11), .int (hfi w a 12), va_rf (hfr w a 13), .int (hfi w a 14), va_rf (hfr w a 15), va_rf (hfr w a 16), va_rf (hfr w a 17), va_rf (hfr w a 18), va_rf (hfr w a 19), va_rf (hfr w a 20), va_rf (hfr w a 21), .int (hfi w a 22), .long (hfl w a 23), .int (hfi w a 24), .int (hfi w a 25), .int (hfi w a 26), va_rf (hfr w a 27), .int (hfi w a 28), .int (hfi w a 29), va_rf (hfr w a 30), va_rf (hfr w a 31), va_rf (hfr w a 32), va_rf (hfr w a 33), va_rf (hfr w a 34), va_rf (hfr w a 35)]
  | 12 => [va_rf (hfr w a 0), .int (hfi w a 1), .int (hfi w a 2), .int (hfi w a 3)]
  | _ => []
def mAr (w : mH) (a n c : Nat) : vp_A := if c = 17 then (n, .inr (.inl (hal w a))) else if c = 21 then (n, .inr (.inr (.inr (.inr (har w a))))) else (n, .inl (hai w a))
abbrev mG : Type := Nat × va_G × (Nat → ClassId) × (Nat → Nat)
def mE (G : mG) (w : mH) (a : Nat) : va_E := if (hk w a).1 < 16 then .inr ((hk w a).1, mOb w a (hk w a).1) else .inl (G.2.2.1 ((hk w a).1 - 16), mAr w a (hk w a).2 (hk w a).1)
abbrev mCl : List vw_C := [(RX0, TX0, 4), (RX1, TX1, 3), (RX2, TX2, 3), (RX3, TX3, 5), (RX4, TX4, 11), (RX5, TX5, 3), (RX6, TX6, 7), (RX7, TX7, 8), (RX8, TX8, 6), (RX9, TX9, 4), (RX10, TX10, 12), (RX11, TX11, 36), (RJ4, TJ4, 4)]
def mTys (G : mG) : List (ClassId × FieldType) := [(G.2.2.1 0, .int), (G.2.2.1 1, .long), (G.2.2.1 2, .char), (G.2.2.1 3, .byte), (G.2.2.1 4, .boolean), (G.2.2.1 5, .object "LineFollowerBench$Setup")]
def mA (G : mG) : Nat → Prop := fun q => G.1 ≤ q
def mPic (G : mG) (w : mH) (H : Heap) : Prop := (∀ a, (hk w a).1 < 32 → va_at G.2.1 mCl (a, mE G w a) H) ∧ (∀ a, (hk w a).1 < 32 → G.1 ≤ a ∧ a < hN w) ∧ H.size = hN w ∧ G.1 ≤ hN w
def mSn : Nat → String × String × String
  | 0 => ("LineFollowerBench", "SETTING_AT_FIRST", "[I")
  | 1 => ("LineFollowerBench", "SETTING_LEAST", "[I")
  | 2 => ("LineFollowerBench", "SETTING_MOST", "[I")
  | 3 => ("java/lang/Integer", "DigitTens", "[B")
  | _ => ("java/lang/Integer", "DigitOnes", "[B")
def mSv : Nat → List Int32
  | 0 => [64, 0, 0, 400, 1000, 1, 0, 0, 10000, 16, 0, 50, 500, 60, 20]
  | 1 => [0, 0, 0, 1, 1, 1, 0, 0, 0, 0, 0, 0, -2000, 1, 0]
  | 2 => [999, 999, 999, 1000, 1000, 100, 5, 3, 100000, 64, 2, 1000, 2000, 200, 1000]
  | 3 => (List.range 100).map (fun n => nI (48 + n / 10))
  | _ => (List.range 100).map (fun n => nI (48 + n % 10))
def mSt : Nat → FieldType
  | 0 => .int
  | 1 => .int
  | 2 => .int
  | _ => .byte
def mNest : Cond → Bool | .methodLinkNest _ _ _ _ => true | .fieldLinkNest _ _ _ _ _ _ => true | .castable _ _ => true | .declares _ => true | .privateMethod _ => true | _ => false
def mStrs : List (String × Nat × String) := [("LineFollowerBench", 84, "no such setting"), ("LineFollowerBench", 98, "the value is out of range"), ("LineFollowerBench", 108, "the place or the value is out of range"), ("LineFollowerBench", 122, "the table is full"), ("LineFollowerBench", 142, "no point at this place"), ("LineFollowerBench", 152, "no such point"), ("LineFollowerBench", 154, "no such part of a point"), ("LineFollowerBench", 159, "the seen value is out of range"), ("LineFollowerBench", 164, "no such part of the cost"), ("LineFollowerBench", 166, "the weight is out of range"), ("LineFollowerBench", 171, "no such gain"), ("LineFollowerBench", 173, "a number of the row is out of range"), ("LineFollowerBench", 175, "a value of the row would be too great"), ("LineFollowerBench", 199, "a character is not allowed"), ("LineFollowerBench", 204, "the buffer is full"), ("LineFollowerBench", 216, "there is an error in the text"), ("LineFollowerBench", 247, "no such character"), ("LineFollowerBench", 253, "no such step"), ("LineFollowerBench", 274, "there is no trace"), ("LineFollowerBench", 278, "no such part of the trace"), ("LineFollowerBench", 284, "no such measure"), ("LineFollowerBench", 326, "there is no trace, or none is held"), ("LineFollowerBench", 328, "no such comparison"), ("LineFollowerBench", 357, "nothing was found yet"), ("LineFollowerBench", 359, "no such part of what was found"), ("LineFollowerBench", 371, "no setting that may be lowered"), ("LineFollowerBench", 377, "the cost is greater already"), ("LineFollowerBench", 383, "no such count"), ("LineFollowerBench", 385, "no change can be taken back"), ("LineFollowerBench", 392, "nothing was saved")]
def mNcs : List (String × String) := [("java/lang/IndexOutOfBoundsException", "java/lang/IllegalArgumentException"), ("java/lang/IndexOutOfBoundsException", "java/lang/IllegalStateException"), ("java/lang/IndexOutOfBoundsException", "java/util/NoSuchElementException"), ("java/lang/IllegalArgumentException", "java/lang/IndexOutOfBoundsException"), ("java/lang/IllegalArgumentException", "java/lang/IllegalStateException"), ("java/lang/IllegalArgumentException", "java/util/NoSuchElementException"), ("java/lang/IllegalStateException", "java/lang/IndexOutOfBoundsException"), ("java/lang/IllegalStateException", "java/lang/IllegalArgumentException"), ("java/lang/IllegalStateException", "java/util/NoSuchElementException"), ("java/util/NoSuchElementException", "java/lang/IndexOutOfBoundsException"), ("java/util/NoSuchElementException", "java/lang/IllegalArgumentException"), ("java/util/NoSuchElementException", "java/lang/IllegalStateException")]
def mScr (G : mG) (j : Nat) : Int32 := Int32.ofNat (G.2.2.2 (7 + j))
def mRow (G : mG) (H : Heap) : Prop := ∃ cell : Cell, H[G.2.2.2 0]? = some cell ∧ cell.cls = G.2.2.1 0 ∧ cell.vm ≠ .unknown ∧ (∀ k, cell.vm ≠ .statics k) ∧ cell.slots = (vp_cell (G.2.2.1 0) (15, .inl (fun j => (mSv 0).getD j 0))).slots ∧ ¬ mA G (G.2.2.2 0)
def mNew (G : mG) (U : State) (H : Heap) : Prop := mRow G H ∧ (va_X (G.2.2.2 5) (G.2.2.2 6) (mScr G) U H ∧ ¬ mA G (G.2.2.2 5)) ∧ va_Zq "jdk/internal/util/Preconditions" "SIOOBE_FORMATTER" "Ljava/util/function/BiFunction;" (mA G) U H ∧ va_AO "LineFollowerBench$Setup" U ∧ ∀ q ∈ mNcs, va_Nc q.1 q.2 U
def mStat (G : mG) (U : State) (H : Heap) : Prop :=
  (∀ i, i < 5 → va_Z (mSn i).1 (mSn i).2.1 (mSn i).2.2 (.ref (G.2.2.2 i)) (mA G) U H ∧ va_T (mSt i) (G.2.2.2 i) (mSv i).length (fun j => .int ((mSv i).getD j 0)) (mA G) U H) ∧
  (va_Z "java/lang/String" "COMPACT_STRINGS" "Z" (.int 1) (mA G) U H ∧ mNew G U H) ∧
  vx_Zq Bundle.tN "UNASSIGNED_STACK" Bundle.steD (mA G) U H ∧ vx_Zq Bundle.tN "SUPPRESSED_SENTINEL" Bundle.listD (mA G) U H ∧
  (∀ q ∈ mStrs, ∃ sa, vk_R q.1 q.2.1 q.2.2 sa U) ∧ (∀ w ∈ lw_tbl, mNest w = true → va_Nw w U)
def mInv (G : mG) (U : State) (H : Heap) : Prop := va_K G.2.1 mCl (mTys G) U ∧ G.1 ≤ H.size ∧ mStat G U H
abbrev mM : Type := MethodName × ByteArray × Nat × Option FieldType × List (Nat × Nat × Nat × Nat)
abbrev mF : Type := Option Value ⊕ String → mH → Prop
def mQc (G : mG) (Φ : mF) : Array Value → State → Outcome → State → Prop := fun _ st o t => ∃ (v : Option Value) (w : mH), o = .returned v ∧ Φ (.inl v) w ∧ mPic G w t.heap ∧ va_F (mA G) st t
def mXC (G : mG) (Φ : mF) : String → State → State → Prop := fun E st t => ∃ w : mH, Φ (.inr E) w ∧ mPic G w t.heap ∧ va_F (mA G) st t
/-- the mark of a method whose handlers nobody knows (the law) -/
def mUnk : List (Nat × Nat × Nat × Nat) := [(7, 7, 7, 7)]
def mCtx (G : mG) (M : mM) (p : Program) (l : Launch) (R : Room) (s : State) (m : MethodId) (args : Array Value) (meth : Method) (c : Code) (d : Nat) : Prop :=
  p.tables.exec = Jvm.exec ∧ c.code = M.2.1 ∧ c.maxLocals = M.2.2.1 ∧ meth.sig.returnType = M.2.2.2.1 ∧ meth.locks = false ∧ s.vm.findClass M.1.cls = some m.cls ∧ meth.name = M.1.name ∧ (∀ w ∈ mTs, w.before args s = true) ∧ mInv G s s.heap ∧ l.stackTraces = false ∧ (M.2.2.2.2 ≠ mUnk → c.exceptionTable.toList = tableOf M.2.2.2.2) ∧ d ≤ R.frames ∧ 100 * d ≤ R.locals
def mW (G : mG) (M : mM) (d kc ks pc : Nat) (lv : List (Nat × Value)) (st : List Value) (w : mH) (Φ : mF) : Prop :=
  ∀ (p : Program) (l : Launch) (e : Env) (R : Room) (s : State) (m : MethodId) (args : Array Value) (below : List Frame) (meth : Method) (c : Code) (H : Heap) (locs : List Loc) (cells slots mc ms : Nat) (ls : Array Slot),
    mCtx G M p l R s m args meth c d → cells + kc ≤ mc → slots + ks ≤ ms → mc ≤ R.cells → ms ≤ R.slots → va_S (mA G) s.heap H locs → mPic G w H → lv_has ls M.2.2.1 lv →
    W p l e R s m args below meth c H locs cells slots (vx_MQ below (mQc G Φ) (mXC G Φ) args s mc ms (mA G)) (F0 m pc ls st)
section MW
variable {G : mG} {M : mM} {d kc ks pc pc2 : Nat} {lv lv2 : List (Nat × Value)} {st st2 : List Value} {w : mH} {Φ : mF}
/-- a row that moves the stack alone -/
theorem mW_go (h : ∀ (p : Program) (l : Launch) (e : Env) (R : Room) (s : State) (m : MethodId) (args : Array Value) (below : List Frame) (meth : Method) (c : Code) (H : Heap) (locs : List Loc) (cells slots : Nat) (Q : State → Prop) (ls : Array Slot), p.tables.exec = Jvm.exec → c.code = M.2.1 → s.vm.findClass M.1.cls = some m.cls → (∀ w ∈ mTs, w.before args s = true) → lv_has ls M.2.2.1 lv →
    W p l e R s m args below meth c H locs cells slots Q (F0 m pc2 ls st2) → W p l e R s m args below meth c H locs cells slots Q (F0 m pc ls st)) (k : mW G M d kc ks pc2 lv st2 w Φ) : mW G M d kc ks pc lv st w Φ := by
  intro p l e R s m args below meth c H locs cells slots mc ms ls X h1 h2 h3 h4 hS hP hl
  exact h p l e R s m args below meth c H locs cells slots _ ls X.1 X.2.1 X.2.2.2.2.2.1 X.2.2.2.2.2.2.2.1 hl (k p l e R s m args below meth c H locs cells slots mc ms ls X h1 h2 h3 h4 hS hP hl)
/-- a row that writes a local -/
theorem mW_st (h : ∀ (p : Program) (l : Launch) (e : Env) (R : Room) (s : State) (m : MethodId) (args : Array Value) (below : List Frame) (meth : Method) (c : Code) (H : Heap) (locs : List Loc) (cells slots : Nat) (Q : State → Prop) (ls : Array Slot), p.tables.exec = Jvm.exec → c.code = M.2.1 → lv_has ls M.2.2.1 lv →
    (∀ ls' : Array Slot, lv_has ls' M.2.2.1 lv2 → W p l e R s m args below meth c H locs cells slots Q (F0 m pc2 ls' st2)) → W p l e R s m args below meth c H locs cells slots Q (F0 m pc ls st)) (k : mW G M d kc ks pc2 lv2 st2 w Φ) : mW G M d kc ks pc lv st w Φ := by
  intro p l e R s m args below meth c H locs cells slots mc ms ls X h1 h2 h3 h4 hS hP hl
  exact h p l e R s m args below meth c H locs cells slots _ ls X.1 X.2.1 hl (fun ls' hl' => k p l e R s m args below meth c H locs cells slots mc ms ls' X h1 h2 h3 h4 hS hP hl')
/-- a row with two ways on -/
theorem mW_if {cnd : Prop} {pc3 : Nat} (h : ∀ (p : Program) (l : Launch) (e : Env) (R : Room) (s : State) (m : MethodId) (args : Array Value) (below : List Frame) (meth : Method) (c : Code) (H : Heap) (locs : List Loc) (cells slots : Nat) (Q : State → Prop) (ls : Array Slot), p.tables.exec = Jvm.exec → c.code = M.2.1 →
    (cnd → W p l e R s m args below meth c H locs cells slots Q (F0 m pc2 ls st2)) → (¬ cnd → W p l e R s m args below meth c H locs cells slots Q (F0 m pc3 ls st2)) → W p l e R s m args below meth c H locs cells slots Q (F0 m pc ls st)) (k1 : cnd → mW G M d kc ks pc2 lv st2 w Φ) (k2 : ¬ cnd → mW G M d kc ks pc3 lv st2 w Φ) : mW G M d kc ks pc lv st w Φ := by
  intro p l e R s m args below meth c H locs cells slots mc ms ls X h1 h2 h3 h4 hS hP hl
  exact h p l e R s m args below meth c H locs cells slots _ ls X.1 X.2.1 (fun q => k1 q p l e R s m args below meth c H locs cells slots mc ms ls X h1 h2 h3 h4 hS hP hl) (fun q => k2 q p l e R s m args below meth c H locs cells slots mc ms ls X h1 h2 h3 h4 hS hP hl)
theorem mW_loc (ks' : List Nat) (h : lv_pick lv ks' = lv2) (k : mW G M d kc ks pc lv2 st w Φ) : mW G M d kc ks pc lv st w Φ := by
  intro p l e R s m args below meth c H locs cells slots mc ms ls X h1 h2 h3 h4 hS hP hl
  exact k p l e R s m args below meth c H locs cells slots mc ms ls X h1 h2 h3 h4 hS hP (lv_sub hl ks' h)
theorem mW_mono {Ψ : mF} (h : ∀ o w', Ψ o w' → Φ o w') (k : mW G M d kc ks pc lv st w Ψ) : mW G M d kc ks pc lv st w Φ := by
  intro p l e R s m args below meth c H locs cells slots mc ms ls X h1 h2 h3 h4 hS hP hl T hT Y
  obtain ⟨t, a1, o, b1, b2, b3⟩ := k p l e R s m args below meth c H locs cells slots mc ms ls X h1 h2 h3 h4 hS hP hl T hT Y
  refine ⟨t, a1, o, b1, b2, ?_⟩
  rcases b3 with ⟨⟨v, w', c1, c2, c3⟩, c4⟩ | ⟨q, c1, E, ce, L, ⟨w', c2, c3⟩, c4⟩
  · exact Or.inl ⟨⟨v, w', c1, h _ _ c2, c3⟩, c4⟩
  · exact Or.inr ⟨q, c1, E, ce, L, ⟨w', h _ _ c2, c3⟩, c4⟩
theorem mW_room {kc' ks' : Nat} (h : kc' ≤ kc) (h' : ks' ≤ ks) (k : mW G M d kc' ks' pc lv st w Φ) : mW G M d kc ks pc lv st w Φ := by
  intro p l e R s m args below meth c H locs cells slots mc ms ls X h1 h2 h3 h4 hS hP hl
  exact k p l e R s m args below meth c H locs cells slots mc ms ls X (by omega) (by omega) h3 h4 hS hP hl
theorem mW_iconst {n : Int} {v : Int32} (hd : decode M.2.1 pc = .ok (.iconst n, 1)) (hv : Int32.ofInt n = v) (k : mW G M d kc ks (pc + 1) lv (.int v :: st) w Φ) : mW G M d kc ks pc lv (st) w Φ := mW_go (fun p l e R s m args below meth c H locs cells slots Q ls hx hb ho hts hl kk => lv_iconst hx hb  hd hv kk) k
theorem mW_bipush {n : Int} {v : Int32} (hd : decode M.2.1 pc = .ok (.bipush n, 2)) (hv : (Int8.ofInt n).toInt32 = v) (k : mW G M d kc ks (pc + 2) lv (.int v :: st) w Φ) : mW G M d kc ks pc lv (st) w Φ := mW_go (fun p l e R s m args below meth c H locs cells slots Q ls hx hb ho hts hl kk => lv_bipush hx hb  hd hv kk) k
theorem mW_sipush {n : Int} {v : Int32} (hd : decode M.2.1 pc = .ok (.sipush n, 3)) (hv : (Int16.ofInt n).toInt32 = v) (k : mW G M d kc ks (pc + 3) lv (.int v :: st) w Φ) : mW G M d kc ks pc lv (st) w Φ := mW_go (fun p l e R s m args below meth c H locs cells slots Q ls hx hb ho hts hl kk => lv_sipush hx hb  hd hv kk) k
theorem mW_lconst {n : Fin 2} {v : Int64} (hd : decode M.2.1 pc = .ok (.lconst n, 1)) (hv : Int64.ofNat (n : Nat) = v) (k : mW G M d kc ks (pc + 1) lv (.long v :: st) w Φ) : mW G M d kc ks pc lv (st) w Φ := mW_go (fun p l e R s m args below meth c H locs cells slots Q ls hx hb ho hts hl kk => lv_lconst hx hb  hd hv kk) k
theorem mW_iadd {x y : Int32} (hd : decode M.2.1 pc = .ok (.iadd, 1))  (k : mW G M d kc ks (pc + 1) lv (.int (x + y) :: st) w Φ) : mW G M d kc ks pc lv (.int y :: .int x :: st) w Φ := mW_go (fun p l e R s m args below meth c H locs cells slots Q ls hx hb ho hts hl kk => lv_iadd hx hb  hd  kk) k
theorem mW_isub {x y : Int32} (hd : decode M.2.1 pc = .ok (.isub, 1))  (k : mW G M d kc ks (pc + 1) lv (.int (x - y) :: st) w Φ) : mW G M d kc ks pc lv (.int y :: .int x :: st) w Φ := mW_go (fun p l e R s m args below meth c H locs cells slots Q ls hx hb ho hts hl kk => lv_isub hx hb  hd  kk) k
theorem mW_imul {x y : Int32} (hd : decode M.2.1 pc = .ok (.imul, 1))  (k : mW G M d kc ks (pc + 1) lv (.int (x * y) :: st) w Φ) : mW G M d kc ks pc lv (.int y :: .int x :: st) w Φ := mW_go (fun p l e R s m args below meth c H locs cells slots Q ls hx hb ho hts hl kk => lv_imul hx hb  hd  kk) k
theorem mW_iand {x y : Int32} (hd : decode M.2.1 pc = .ok (.iand, 1))  (k : mW G M d kc ks (pc + 1) lv (.int (x &&& y) :: st) w Φ) : mW G M d kc ks pc lv (.int y :: .int x :: st) w Φ := mW_go (fun p l e R s m args below meth c H locs cells slots Q ls hx hb ho hts hl kk => lv_iand hx hb  hd  kk) k
theorem mW_ior {x y : Int32} (hd : decode M.2.1 pc = .ok (.ior, 1))  (k : mW G M d kc ks (pc + 1) lv (.int (x ||| y) :: st) w Φ) : mW G M d kc ks pc lv (.int y :: .int x :: st) w Φ := mW_go (fun p l e R s m args below meth c H locs cells slots Q ls hx hb ho hts hl kk => lv_ior hx hb  hd  kk) k
theorem mW_ishl {x y : Int32} (hd : decode M.2.1 pc = .ok (.ishl, 1))  (k : mW G M d kc ks (pc + 1) lv (.int (x <<< (y &&& 31)) :: st) w Φ) : mW G M d kc ks pc lv (.int y :: .int x :: st) w Φ := mW_go (fun p l e R s m args below meth c H locs cells slots Q ls hx hb ho hts hl kk => lv_ishl hx hb  hd  kk) k
theorem mW_ishr {x y : Int32} (hd : decode M.2.1 pc = .ok (.ishr, 1))  (k : mW G M d kc ks (pc + 1) lv (.int (x >>> (y &&& 31)) :: st) w Φ) : mW G M d kc ks pc lv (.int y :: .int x :: st) w Φ := mW_go (fun p l e R s m args below meth c H locs cells slots Q ls hx hb ho hts hl kk => lv_ishr hx hb  hd  kk) k
theorem mW_idiv {x y : Int32} (hd : decode M.2.1 pc = .ok (.idiv, 1)) (h0 : ¬ y = 0) (k : mW G M d kc ks (pc + 1) lv (.int (x / y) :: st) w Φ) : mW G M d kc ks pc lv (.int y :: .int x :: st) w Φ := mW_go (fun p l e R s m args below meth c H locs cells slots Q ls hx hb ho hts hl kk => lv_idiv hx hb  hd h0 kk) k
theorem mW_irem {x y : Int32} (hd : decode M.2.1 pc = .ok (.irem, 1)) (h0 : ¬ y = 0) (k : mW G M d kc ks (pc + 1) lv (.int (x - x / y * y) :: st) w Φ) : mW G M d kc ks pc lv (.int y :: .int x :: st) w Φ := mW_go (fun p l e R s m args below meth c H locs cells slots Q ls hx hb ho hts hl kk => lv_irem hx hb  hd h0 kk) k
theorem mW_ineg {x : Int32} (hd : decode M.2.1 pc = .ok (.ineg, 1))  (k : mW G M d kc ks (pc + 1) lv (.int (-x) :: st) w Φ) : mW G M d kc ks pc lv (.int x :: st) w Φ := mW_go (fun p l e R s m args below meth c H locs cells slots Q ls hx hb ho hts hl kk => lv_ineg hx hb  hd  kk) k
theorem mW_ladd {x y : Int64} (hd : decode M.2.1 pc = .ok (.ladd, 1))  (k : mW G M d kc ks (pc + 1) lv (.long (x + y) :: st) w Φ) : mW G M d kc ks pc lv (.long y :: .long x :: st) w Φ := mW_go (fun p l e R s m args below meth c H locs cells slots Q ls hx hb ho hts hl kk => lv_ladd hx hb  hd  kk) k
theorem mW_lsub {x y : Int64} (hd : decode M.2.1 pc = .ok (.lsub, 1))  (k : mW G M d kc ks (pc + 1) lv (.long (x - y) :: st) w Φ) : mW G M d kc ks pc lv (.long y :: .long x :: st) w Φ := mW_go (fun p l e R s m args below meth c H locs cells slots Q ls hx hb ho hts hl kk => lv_lsub hx hb  hd  kk) k
theorem mW_lmul {x y : Int64} (hd : decode M.2.1 pc = .ok (.lmul, 1))  (k : mW G M d kc ks (pc + 1) lv (.long (x * y) :: st) w Φ) : mW G M d kc ks pc lv (.long y :: .long x :: st) w Φ := mW_go (fun p l e R s m args below meth c H locs cells slots Q ls hx hb ho hts hl kk => lv_lmul hx hb  hd  kk) k
theorem mW_land {x y : Int64} (hd : decode M.2.1 pc = .ok (.land, 1))  (k : mW G M d kc ks (pc + 1) lv (.long (x &&& y) :: st) w Φ) : mW G M d kc ks pc lv (.long y :: .long x :: st) w Φ := mW_go (fun p l e R s m args below meth c H locs cells slots Q ls hx hb ho hts hl kk => lv_land hx hb  hd  kk) k
theorem mW_lor {x y : Int64} (hd : decode M.2.1 pc = .ok (.lor, 1))  (k : mW G M d kc ks (pc + 1) lv (.long (x ||| y) :: st) w Φ) : mW G M d kc ks pc lv (.long y :: .long x :: st) w Φ := mW_go (fun p l e R s m args below meth c H locs cells slots Q ls hx hb ho hts hl kk => lv_lor hx hb  hd  kk) k
theorem mW_ldiv {x y : Int64} (hd : decode M.2.1 pc = .ok (.ldiv, 1)) (h0 : ¬ y = 0) (k : mW G M d kc ks (pc + 1) lv (.long (x / y) :: st) w Φ) : mW G M d kc ks pc lv (.long y :: .long x :: st) w Φ := mW_go (fun p l e R s m args below meth c H locs cells slots Q ls hx hb ho hts hl kk => lv_ldiv hx hb  hd h0 kk) k
theorem mW_lneg {x : Int64} (hd : decode M.2.1 pc = .ok (.lneg, 1))  (k : mW G M d kc ks (pc + 1) lv (.long (-x) :: st) w Φ) : mW G M d kc ks pc lv (.long x :: st) w Φ := mW_go (fun p l e R s m args below meth c H locs cells slots Q ls hx hb ho hts hl kk => lv_lneg hx hb  hd  kk) k
theorem mW_lcmp {x y : Int64} (hd : decode M.2.1 pc = .ok (.lcmp, 1))  (k : mW G M d kc ks (pc + 1) lv (.int (lg_cmp x y) :: st) w Φ) : mW G M d kc ks pc lv (.long y :: .long x :: st) w Φ := mW_go (fun p l e R s m args below meth c H locs cells slots Q ls hx hb ho hts hl kk => W.lcmp hx hb  hd  kk) k
theorem mW_i2l {x : Int32} (hd : decode M.2.1 pc = .ok (.i2l, 1))  (k : mW G M d kc ks (pc + 1) lv (.long x.toInt64 :: st) w Φ) : mW G M d kc ks pc lv (.int x :: st) w Φ := mW_go (fun p l e R s m args below meth c H locs cells slots Q ls hx hb ho hts hl kk => lv_i2l hx hb  hd rfl kk) k
theorem mW_l2i {x : Int64} (hd : decode M.2.1 pc = .ok (.l2i, 1))  (k : mW G M d kc ks (pc + 1) lv (.int x.toInt32 :: st) w Φ) : mW G M d kc ks pc lv (.long x :: st) w Φ := mW_go (fun p l e R s m args below meth c H locs cells slots Q ls hx hb ho hts hl kk => lv_l2i hx hb  hd rfl kk) k
theorem mW_dup {v : Value} (hd : decode M.2.1 pc = .ok (.dup, 1)) (h0 : v.category = 1) (k : mW G M d kc ks (pc + 1) lv (v :: v :: st) w Φ) : mW G M d kc ks pc lv (v :: st) w Φ := mW_go (fun p l e R s m args below meth c H locs cells slots Q ls hx hb ho hts hl kk => lv_dup hx hb  hd h0 kk) k
theorem mW_pop {v : Value} (hd : decode M.2.1 pc = .ok (.pop, 1)) (h0 : v.category = 1) (k : mW G M d kc ks (pc + 1) lv (st) w Φ) : mW G M d kc ks pc lv (v :: st) w Φ := mW_go (fun p l e R s m args below meth c H locs cells slots Q ls hx hb ho hts hl kk => lv_pop hx hb  hd h0 kk) k
theorem mW_dup2 {v u : Value} (hd : decode M.2.1 pc = .ok (.dup2, 1)) (h0 : v.category = 1) (h1 : u.category = 1) (k : mW G M d kc ks (pc + 1) lv (v :: u :: v :: u :: st) w Φ) : mW G M d kc ks pc lv (v :: u :: st) w Φ := mW_go (fun p l e R s m args below meth c H locs cells slots Q ls hx hb ho hts hl kk => lv_dup2_11 hx hb  hd h0 h1 kk) k
theorem mW_dup2w {v : Value} (hd : decode M.2.1 pc = .ok (.dup2, 1)) (h0 : v.category = 2) (k : mW G M d kc ks (pc + 1) lv (v :: v :: st) w Φ) : mW G M d kc ks pc lv (v :: st) w Φ := mW_go (fun p l e R s m args below meth c H locs cells slots Q ls hx hb ho hts hl kk => lv_dup2_2 hx hb  hd h0 kk) k
theorem mW_dup_x1 {v u : Value} (hd : decode M.2.1 pc = .ok (.dup_x1, 1)) (h0 : v.category = 1) (h1 : u.category = 1) (k : mW G M d kc ks (pc + 1) lv (v :: u :: v :: st) w Φ) : mW G M d kc ks pc lv (v :: u :: st) w Φ := mW_go (fun p l e R s m args below meth c H locs cells slots Q ls hx hb ho hts hl kk => lv_dup_x1 hx hb  hd h0 h1 kk) k
theorem mW_iload_n {k : Fin 4} {i j : Nat} {x : Int32} (hd : decode M.2.1 pc = .ok (.iload_n k, 1)) (hi : (k : Nat) = i) (hj : lv[j]? = some (i, .int x)) (kk : mW G M d kc ks (pc + 1) lv (.int x :: st) w Φ) : mW G M d kc ks pc lv st w Φ := mW_go (fun p l e R s m args below meth c H locs cells slots Q ls hx hb ho hts hl kk => lv_iload_n hx hb hd hi (lv_at hl j hj) kk) kk
theorem mW_iload {i j : Nat} {x : Int32} (hd : decode M.2.1 pc = .ok (.iload i, 2)) (hj : lv[j]? = some (i, .int x)) (kk : mW G M d kc ks (pc + 2) lv (.int x :: st) w Φ) : mW G M d kc ks pc lv st w Φ := mW_go (fun p l e R s m args below meth c H locs cells slots Q ls hx hb ho hts hl kk => lv_iload hx hb hd (lv_at hl j hj) kk) kk
theorem mW_lload_n {k : Fin 4} {i j : Nat} {x : Int64} (hd : decode M.2.1 pc = .ok (.lload_n k, 1)) (hi : (k : Nat) = i) (hj : lv[j]? = some (i, .long x)) (kk : mW G M d kc ks (pc + 1) lv (.long x :: st) w Φ) : mW G M d kc ks pc lv st w Φ := mW_go (fun p l e R s m args below meth c H locs cells slots Q ls hx hb ho hts hl kk => lv_lload_n hx hb hd hi (lv_at hl j hj) kk) kk
theorem mW_lload {i j : Nat} {x : Int64} (hd : decode M.2.1 pc = .ok (.lload i, 2)) (hj : lv[j]? = some (i, .long x)) (kk : mW G M d kc ks (pc + 2) lv (.long x :: st) w Φ) : mW G M d kc ks pc lv st w Φ := mW_go (fun p l e R s m args below meth c H locs cells slots Q ls hx hb ho hts hl kk => lv_lload hx hb hd (lv_at hl j hj) kk) kk
theorem mW_aload_n {k : Fin 4} {i j : Nat} {x : Nat} (hd : decode M.2.1 pc = .ok (.aload_n k, 1)) (hi : (k : Nat) = i) (hj : lv[j]? = some (i, .ref x)) (kk : mW G M d kc ks (pc + 1) lv (.ref x :: st) w Φ) : mW G M d kc ks pc lv st w Φ := mW_go (fun p l e R s m args below meth c H locs cells slots Q ls hx hb ho hts hl kk => lv_aload_n hx hb hd hi (lv_at hl j hj) kk) kk
theorem mW_aload {i j : Nat} {x : Nat} (hd : decode M.2.1 pc = .ok (.aload i, 2)) (hj : lv[j]? = some (i, .ref x)) (kk : mW G M d kc ks (pc + 2) lv (.ref x :: st) w Φ) : mW G M d kc ks pc lv st w Φ := mW_go (fun p l e R s m args below meth c H locs cells slots Q ls hx hb ho hts hl kk => lv_aload hx hb hd (lv_at hl j hj) kk) kk
theorem mW_fload_n {k : Fin 4} {i j : Nat} {x : UInt32} (hd : decode M.2.1 pc = .ok (.fload_n k, 1)) (hi : (k : Nat) = i) (hj : lv[j]? = some (i, .float x)) (kk : mW G M d kc ks (pc + 1) lv (.float x :: st) w Φ) : mW G M d kc ks pc lv st w Φ := mW_go (fun p l e R s m args below meth c H locs cells slots Q ls hx hb ho hts hl kk => lv_fload_n hx hb hd hi (lv_at hl j hj) kk) kk
theorem mW_fload {i j : Nat} {x : UInt32} (hd : decode M.2.1 pc = .ok (.fload i, 2)) (hj : lv[j]? = some (i, .float x)) (kk : mW G M d kc ks (pc + 2) lv (.float x :: st) w Φ) : mW G M d kc ks pc lv st w Φ := mW_go (fun p l e R s m args below meth c H locs cells slots Q ls hx hb ho hts hl kk => lv_fload hx hb hd (lv_at hl j hj) kk) kk
theorem mW_dload_n {k : Fin 4} {i j : Nat} {x : UInt64} (hd : decode M.2.1 pc = .ok (.dload_n k, 1)) (hi : (k : Nat) = i) (hj : lv[j]? = some (i, .double x)) (kk : mW G M d kc ks (pc + 1) lv (.double x :: st) w Φ) : mW G M d kc ks pc lv st w Φ := mW_go (fun p l e R s m args below meth c H locs cells slots Q ls hx hb ho hts hl kk => lv_dload_n hx hb hd hi (lv_at hl j hj) kk) kk
theorem mW_dload {i j : Nat} {x : UInt64} (hd : decode M.2.1 pc = .ok (.dload i, 2)) (hj : lv[j]? = some (i, .double x)) (kk : mW G M d kc ks (pc + 2) lv (.double x :: st) w Φ) : mW G M d kc ks pc lv st w Φ := mW_go (fun p l e R s m args below meth c H locs cells slots Q ls hx hb ho hts hl kk => lv_dload hx hb hd (lv_at hl j hj) kk) kk
theorem mW_istore_n {k : Fin 4} {i : Nat} {x : Int32} (hd : decode M.2.1 pc = .ok (.istore_n k, 1)) (hi : (k : Nat) = i) (hn : i < M.2.2.1) (hl2 : (i, Value.int x) :: lv.filter (fun q => !(q.1 == i) && !(q.1 + 1 == i && q.2.category == 2)) = lv2) (kk : mW G M d kc ks (pc + 1) lv2 st w Φ) : mW G M d kc ks pc lv (.int x :: st) w Φ := mW_st (fun p l e R s m args below meth c H locs cells slots Q ls hx hb hl kk => lv_istore_n hx hb hd hi hl hn hl2 kk) kk
theorem mW_istore {i : Nat} {x : Int32} (hd : decode M.2.1 pc = .ok (.istore i, 2)) (hn : i < M.2.2.1) (hl2 : (i, Value.int x) :: lv.filter (fun q => !(q.1 == i) && !(q.1 + 1 == i && q.2.category == 2)) = lv2) (kk : mW G M d kc ks (pc + 2) lv2 st w Φ) : mW G M d kc ks pc lv (.int x :: st) w Φ := mW_st (fun p l e R s m args below meth c H locs cells slots Q ls hx hb hl kk => lv_istore hx hb hd hl hn hl2 kk) kk
theorem mW_lstore_n {k : Fin 4} {i : Nat} {x : Int64} (hd : decode M.2.1 pc = .ok (.lstore_n k, 1)) (hi : (k : Nat) = i) (hn : i + 1 < M.2.2.1) (hl2 : (i, Value.long x) :: lv.filter (fun q => !(q.1 == i) && (!(q.1 == i + 1) && !(q.1 + 1 == i && q.2.category == 2))) = lv2) (kk : mW G M d kc ks (pc + 1) lv2 st w Φ) : mW G M d kc ks pc lv (.long x :: st) w Φ := mW_st (fun p l e R s m args below meth c H locs cells slots Q ls hx hb hl kk => lv_lstore_n hx hb hd hi hl hn hl2 kk) kk
theorem mW_lstore {i : Nat} {x : Int64} (hd : decode M.2.1 pc = .ok (.lstore i, 2)) (hn : i + 1 < M.2.2.1) (hl2 : (i, Value.long x) :: lv.filter (fun q => !(q.1 == i) && (!(q.1 == i + 1) && !(q.1 + 1 == i && q.2.category == 2))) = lv2) (kk : mW G M d kc ks (pc + 2) lv2 st w Φ) : mW G M d kc ks pc lv (.long x :: st) w Φ := mW_st (fun p l e R s m args below meth c H locs cells slots Q ls hx hb hl kk => lv_lstore hx hb hd hl hn hl2 kk) kk
theorem mW_astore_n {k : Fin 4} {i : Nat} {x : Nat} (hd : decode M.2.1 pc = .ok (.astore_n k, 1)) (hi : (k : Nat) = i) (hn : i < M.2.2.1) (hl2 : (i, Value.ref x) :: lv.filter (fun q => !(q.1 == i) && !(q.1 + 1 == i && q.2.category == 2)) = lv2) (kk : mW G M d kc ks (pc + 1) lv2 st w Φ) : mW G M d kc ks pc lv (.ref x :: st) w Φ := mW_st (fun p l e R s m args below meth c H locs cells slots Q ls hx hb hl kk => lv_astore_n hx hb hd hi hl hn hl2 kk) kk
theorem mW_astore {i : Nat} {x : Nat} (hd : decode M.2.1 pc = .ok (.astore i, 2)) (hn : i < M.2.2.1) (hl2 : (i, Value.ref x) :: lv.filter (fun q => !(q.1 == i) && !(q.1 + 1 == i && q.2.category == 2)) = lv2) (kk : mW G M d kc ks (pc + 2) lv2 st w Φ) : mW G M d kc ks pc lv (.ref x :: st) w Φ := mW_st (fun p l e R s m args below meth c H locs cells slots Q ls hx hb hl kk => lv_astore hx hb hd hl hn hl2 kk) kk
theorem mW_fstore_n {k : Fin 4} {i : Nat} {x : UInt32} (hd : decode M.2.1 pc = .ok (.fstore_n k, 1)) (hi : (k : Nat) = i) (hn : i < M.2.2.1) (hl2 : (i, Value.float x) :: lv.filter (fun q => !(q.1 == i) && !(q.1 + 1 == i && q.2.category == 2)) = lv2) (kk : mW G M d kc ks (pc + 1) lv2 st w Φ) : mW G M d kc ks pc lv (.float x :: st) w Φ := mW_st (fun p l e R s m args below meth c H locs cells slots Q ls hx hb hl kk => lv_fstore_n hx hb hd hi hl hn hl2 kk) kk
theorem mW_fstore {i : Nat} {x : UInt32} (hd : decode M.2.1 pc = .ok (.fstore i, 2)) (hn : i < M.2.2.1) (hl2 : (i, Value.float x) :: lv.filter (fun q => !(q.1 == i) && !(q.1 + 1 == i && q.2.category == 2)) = lv2) (kk : mW G M d kc ks (pc + 2) lv2 st w Φ) : mW G M d kc ks pc lv (.float x :: st) w Φ := mW_st (fun p l e R s m args below meth c H locs cells slots Q ls hx hb hl kk => lv_fstore hx hb hd hl hn hl2 kk) kk
theorem mW_dstore_n {k : Fin 4} {i : Nat} {x : UInt64} (hd : decode M.2.1 pc = .ok (.dstore_n k, 1)) (hi : (k : Nat) = i) (hn : i + 1 < M.2.2.1) (hl2 : (i, Value.double x) :: lv.filter (fun q => !(q.1 == i) && (!(q.1 == i + 1) && !(q.1 + 1 == i && q.2.category == 2))) = lv2) (kk : mW G M d kc ks (pc + 1) lv2 st w Φ) : mW G M d kc ks pc lv (.double x :: st) w Φ := mW_st (fun p l e R s m args below meth c H locs cells slots Q ls hx hb hl kk => lv_dstore_n hx hb hd hi hl hn hl2 kk) kk
theorem mW_dstore {i : Nat} {x : UInt64} (hd : decode M.2.1 pc = .ok (.dstore i, 2)) (hn : i + 1 < M.2.2.1) (hl2 : (i, Value.double x) :: lv.filter (fun q => !(q.1 == i) && (!(q.1 == i + 1) && !(q.1 + 1 == i && q.2.category == 2))) = lv2) (kk : mW G M d kc ks (pc + 2) lv2 st w Φ) : mW G M d kc ks pc lv (.double x :: st) w Φ := mW_st (fun p l e R s m args below meth c H locs cells slots Q ls hx hb hl kk => lv_dstore hx hb hd hl hn hl2 kk) kk
theorem mW_iinc {i j : Nat} {n : Int} {x v : Int32} (hd : decode M.2.1 pc = .ok (.iinc i n, 3)) (hj : lv[j]? = some (i, .int x)) (hv : x + Int32.ofInt n = v) (hn : i < M.2.2.1) (hl2 : (i, Value.int v) :: lv.filter (fun q => !(q.1 == i) && !(q.1 + 1 == i && q.2.category == 2)) = lv2) (kk : mW G M d kc ks (pc + 3) lv2 st w Φ) : mW G M d kc ks pc lv st w Φ := mW_st (fun p l e R s m args below meth c H locs cells slots Q ls hx hb hl kk => lv_iinc hx hb hd hl hj hv hn hl2 kk) kk
theorem mW_if_eq {x : Int32} {off : Int} {tgt : Nat} (hd : decode M.2.1 pc = .ok (.ifCond .eq off, 3)) (ht : (pc : Int) + off = (tgt : Int)) (k1 : x = 0 → mW G M d kc ks tgt lv st w Φ) (k2 : ¬ (x = 0) → mW G M d kc ks (pc + 3) lv st w Φ) : mW G M d kc ks pc lv (.int x :: st) w Φ := mW_if (fun p l e R s m args below meth c H locs cells slots Q ls hx hb q1 q2 => lv_if_eq hx hb hd ht q1 q2) k1 k2
theorem mW_icmp_eq {x y : Int32} {off : Int} {tgt : Nat} (hd : decode M.2.1 pc = .ok (.if_icmp .eq off, 3)) (ht : (pc : Int) + off = (tgt : Int)) (k1 : x = y → mW G M d kc ks tgt lv st w Φ) (k2 : ¬ (x = y) → mW G M d kc ks (pc + 3) lv st w Φ) : mW G M d kc ks pc lv (.int y :: .int x :: st) w Φ := mW_if (fun p l e R s m args below meth c H locs cells slots Q ls hx hb q1 q2 => lv_icmp_eq hx hb hd ht q1 q2) k1 k2
theorem mW_if_lt {x : Int32} {off : Int} {tgt : Nat} (hd : decode M.2.1 pc = .ok (.ifCond .lt off, 3)) (ht : (pc : Int) + off = (tgt : Int)) (k1 : x < 0 → mW G M d kc ks tgt lv st w Φ) (k2 : ¬ (x < 0) → mW G M d kc ks (pc + 3) lv st w Φ) : mW G M d kc ks pc lv (.int x :: st) w Φ := mW_if (fun p l e R s m args below meth c H locs cells slots Q ls hx hb q1 q2 => lv_if_lt hx hb hd ht q1 q2) k1 k2
theorem mW_icmp_lt {x y : Int32} {off : Int} {tgt : Nat} (hd : decode M.2.1 pc = .ok (.if_icmp .lt off, 3)) (ht : (pc : Int) + off = (tgt : Int)) (k1 : x < y → mW G M d kc ks tgt lv st w Φ) (k2 : ¬ (x < y) → mW G M d kc ks (pc + 3) lv st w Φ) : mW G M d kc ks pc lv (.int y :: .int x :: st) w Φ := mW_if (fun p l e R s m args below meth c H locs cells slots Q ls hx hb q1 q2 => lv_icmp_lt hx hb hd ht q1 q2) k1 k2
theorem mW_if_ge {x : Int32} {off : Int} {tgt : Nat} (hd : decode M.2.1 pc = .ok (.ifCond .ge off, 3)) (ht : (pc : Int) + off = (tgt : Int)) (k1 : 0 ≤ x → mW G M d kc ks tgt lv st w Φ) (k2 : ¬ (0 ≤ x) → mW G M d kc ks (pc + 3) lv st w Φ) : mW G M d kc ks pc lv (.int x :: st) w Φ := mW_if (fun p l e R s m args below meth c H locs cells slots Q ls hx hb q1 q2 => lv_if_ge hx hb hd ht q1 q2) k1 k2
theorem mW_icmp_ge {x y : Int32} {off : Int} {tgt : Nat} (hd : decode M.2.1 pc = .ok (.if_icmp .ge off, 3)) (ht : (pc : Int) + off = (tgt : Int)) (k1 : y ≤ x → mW G M d kc ks tgt lv st w Φ) (k2 : ¬ (y ≤ x) → mW G M d kc ks (pc + 3) lv st w Φ) : mW G M d kc ks pc lv (.int y :: .int x :: st) w Φ := mW_if (fun p l e R s m args below meth c H locs cells slots Q ls hx hb q1 q2 => lv_icmp_ge hx hb hd ht q1 q2) k1 k2
theorem mW_if_gt {x : Int32} {off : Int} {tgt : Nat} (hd : decode M.2.1 pc = .ok (.ifCond .gt off, 3)) (ht : (pc : Int) + off = (tgt : Int)) (k1 : 0 < x → mW G M d kc ks tgt lv st w Φ) (k2 : ¬ (0 < x) → mW G M d kc ks (pc + 3) lv st w Φ) : mW G M d kc ks pc lv (.int x :: st) w Φ := mW_if (fun p l e R s m args below meth c H locs cells slots Q ls hx hb q1 q2 => lv_if_gt hx hb hd ht q1 q2) k1 k2
theorem mW_icmp_gt {x y : Int32} {off : Int} {tgt : Nat} (hd : decode M.2.1 pc = .ok (.if_icmp .gt off, 3)) (ht : (pc : Int) + off = (tgt : Int)) (k1 : y < x → mW G M d kc ks tgt lv st w Φ) (k2 : ¬ (y < x) → mW G M d kc ks (pc + 3) lv st w Φ) : mW G M d kc ks pc lv (.int y :: .int x :: st) w Φ := mW_if (fun p l e R s m args below meth c H locs cells slots Q ls hx hb q1 q2 => lv_icmp_gt hx hb hd ht q1 q2) k1 k2
theorem mW_if_le {x : Int32} {off : Int} {tgt : Nat} (hd : decode M.2.1 pc = .ok (.ifCond .le off, 3)) (ht : (pc : Int) + off = (tgt : Int)) (k1 : x ≤ 0 → mW G M d kc ks tgt lv st w Φ) (k2 : ¬ (x ≤ 0) → mW G M d kc ks (pc + 3) lv st w Φ) : mW G M d kc ks pc lv (.int x :: st) w Φ := mW_if (fun p l e R s m args below meth c H locs cells slots Q ls hx hb q1 q2 => lv_if_le hx hb hd ht q1 q2) k1 k2
theorem mW_icmp_le {x y : Int32} {off : Int} {tgt : Nat} (hd : decode M.2.1 pc = .ok (.if_icmp .le off, 3)) (ht : (pc : Int) + off = (tgt : Int)) (k1 : x ≤ y → mW G M d kc ks tgt lv st w Φ) (k2 : ¬ (x ≤ y) → mW G M d kc ks (pc + 3) lv st w Φ) : mW G M d kc ks pc lv (.int y :: .int x :: st) w Φ := mW_if (fun p l e R s m args below meth c H locs cells slots Q ls hx hb q1 q2 => lv_icmp_le hx hb hd ht q1 q2) k1 k2
theorem mW_if_ne {x : Int32} {off : Int} {tgt : Nat} (hd : decode M.2.1 pc = .ok (.ifCond .ne off, 3)) (ht : (pc : Int) + off = (tgt : Int)) (k1 : ¬ x = 0 → mW G M d kc ks tgt lv st w Φ) (k2 : x = 0 → mW G M d kc ks (pc + 3) lv st w Φ) : mW G M d kc ks pc lv (.int x :: st) w Φ := mW_if (fun p l e R s m args below meth c H locs cells slots Q ls hx hb q1 q2 => lv_if_ne hx hb hd ht q2 q1) k2 k1
theorem mW_icmp_ne {x y : Int32} {off : Int} {tgt : Nat} (hd : decode M.2.1 pc = .ok (.if_icmp .ne off, 3)) (ht : (pc : Int) + off = (tgt : Int)) (k1 : ¬ x = y → mW G M d kc ks tgt lv st w Φ) (k2 : x = y → mW G M d kc ks (pc + 3) lv st w Φ) : mW G M d kc ks pc lv (.int y :: .int x :: st) w Φ := mW_if (fun p l e R s m args below meth c H locs cells slots Q ls hx hb q1 q2 => lv_icmp_ne hx hb hd ht q2 q1) k2 k1
theorem mW_goto {off : Int} {tgt : Nat} (hd : decode M.2.1 pc = .ok (.goto off, 3)) (ht : (pc : Int) + off = (tgt : Int)) (k : mW G M d kc ks tgt lv st w Φ) : mW G M d kc ks pc lv st w Φ := mW_go (fun p l e R s m args below meth c H locs cells slots Q ls hx hb ho hts hl kk => lv_goto hx hb hd ht kk) k
theorem mW_ldc {idx : Nat} {v : Int32} (hd : decode M.2.1 pc = .ok (.ldc idx, 2)) (hw : Cond.constant M.1.cls idx v ∈ mTs) (k : mW G M d kc ks (pc + 2) lv (.int v :: st) w Φ) : mW G M d kc ks pc lv st w Φ := mW_go (fun p l e R s m args below meth c H locs cells slots Q ls hx hb ho hts hl kk => lv_ldc hx hb ho (hts _ hw) hd kk) k
theorem mW_ldcw {idx : Nat} {v : Int32} (hd : decode M.2.1 pc = .ok (.ldc_w idx, 3)) (hw : Cond.constant M.1.cls idx v ∈ mTs) (k : mW G M d kc ks (pc + 3) lv (.int v :: st) w Φ) : mW G M d kc ks pc lv st w Φ := mW_go (fun p l e R s m args below meth c H locs cells slots Q ls hx hb ho hts hl kk => lv_ldcw hx hb ho (hts _ hw) hd kk) k
theorem mW_ldc2 {idx : Nat} {v : Int64} (hd : decode M.2.1 pc = .ok (.ldc2_w idx, 3)) (hw : Cond.constantLong M.1.cls idx v ∈ mTs) (k : mW G M d kc ks (pc + 3) lv (.long v :: st) w Φ) : mW G M d kc ks pc lv st w Φ := mW_go (fun p l e R s m args below meth c H locs cells slots Q ls hx hb ho hts hl kk => lv_ldc2 hx hb ho (hts _ hw) hd kk) k
theorem mW_tabIn {dflt lo hi : Int} {offs : Array Int} {len : Nat} {x : Int32} {off : Int} {tgt : Nat} (hd : decode M.2.1 pc = .ok (.tableswitch dflt lo hi offs, len)) (h1 : ¬ x.toInt < lo) (h2 : ¬ hi < x.toInt) (ho : offs[(x.toInt - lo).toNat]? = some off) (ht : (pc : Int) + off = (tgt : Int)) (k : mW G M d kc ks tgt lv st w Φ) : mW G M d kc ks pc lv (.int x :: st) w Φ := mW_go (fun p l e R s m args below meth c H locs cells slots Q ls hx hb _ hts hl kk => lv_tableIn hx hb hd h1 h2 ho ht kk) k
theorem mW_tabOut {dflt lo hi : Int} {offs : Array Int} {len : Nat} {x : Int32} {tgt : Nat} (hd : decode M.2.1 pc = .ok (.tableswitch dflt lo hi offs, len)) (h : x.toInt < lo ∨ hi < x.toInt) (ht : (pc : Int) + dflt = (tgt : Int)) (k : mW G M d kc ks tgt lv st w Φ) : mW G M d kc ks pc lv (.int x :: st) w Φ := mW_go (fun p l e R s m args below meth c H locs cells slots Q ls hx hb _ hts hl kk => lv_tableOut hx hb hd h ht kk) k
theorem mW_lookup {dflt : Int} {ps : Array (Int × Int)} {len : Nat} {x : Int32} {off : Int} {tgt : Nat} (hd : decode M.2.1 pc = .ok (.lookupswitch dflt ps, len)) (hp : (ps.toList.zip (ps.toList.drop 1)).all (fun (a, next) => a.1 < next.1) = true) (ho : Op.lookupswitch.offset ps.toList dflt x.toInt = off) (ht : (pc : Int) + off = (tgt : Int)) (k : mW G M d kc ks tgt lv st w Φ) : mW G M d kc ks pc lv (.int x :: st) w Φ := mW_go (fun p l e R s m args below meth c H locs cells slots Q ls hx hb _ hts hl kk => lv_lookup hx hb hd hp ho ht kk) k
end MW
