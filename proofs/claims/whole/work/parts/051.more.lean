section MORE
variable {ρ : Type} {K : Mem × ρ → State → Prop} {X : GX} {M : MI} {σ : Mem} {pc pc' : Nat} {lv : List (Nat × Value)} {st : List Value} {o : Option (Mem × ρ)}
theorem g_dup2 {v v2 : Value} (d : At M.1 pc .dup2 1 pc') (hv : v.category = 1) (hv2 : v2.category = 1) (k : GS K X M σ pc' lv (v :: v2 :: v :: v2 :: st) o) : GS K X M σ pc lv (v :: v2 :: st) o := by
  obtain ⟨p, l, e, s, m, args, below, meth, c, D, ca, ad, t1, t2, cs, sl⟩ := X
  obtain ⟨d1, rfl⟩ := d
  intro out ho F H locs ls hP hS hl
  exact lv_dup2_11 F.1 F.2.1 d1 hv hv2 (k out ho F H locs ls hP hS hl)
theorem g_none : GS K X M σ pc lv st none := fun out ho => by cases ho
def lt_ {α β : Type} (e : α) (f : α → β) : β := f e
theorem g_topi {e : Int32} {f : Int32 → Option (Mem × ρ)} (k : ∀ v, GS K X M σ pc lv (.int v :: st) (f v)) : GS K X M σ pc lv (.int e :: st) (lt_ e f) := k e
theorem g_topl {e : Int64} {f : Int64 → Option (Mem × ρ)} (k : ∀ v, GS K X M σ pc lv (.long v :: st) (f v)) : GS K X M σ pc lv (.long e :: st) (lt_ e f) := k e
def spl {β : Type} (r : Option Nat) (b : Nat) (o1 : Option β) (o2 : Nat → Option β) : Option β := match r with | none => o1 | some x => if x < b then o2 x else none
theorem g_spl {r : Option Nat} {b : Nat} {g : Nat → Nat} {o1 : Option (Mem × ρ)} {o2 : Nat → Option (Mem × ρ)} (k1 : GS K X M σ pc lv (.null :: st) o1) (k2 : ∀ x, x < b → GS K X M σ pc lv (.ref (g x) :: st) (o2 x)) : GS K X M σ pc lv (va_rf (r.map g) :: st) (spl r b o1 o2) := by
  cases r with
  | none => exact k1
  | some x => exact g_guard (fun h => k2 x h)
theorem g_eqc {x : Int32} (c : Int32) {o1 o2 : Option (Mem × ρ)} (k1 : GS K X M σ pc lv (.int c :: st) o1) (k2 : ¬ x = c → GS K X M σ pc lv (.int x :: st) o2) : GS K X M σ pc lv (.int x :: st) (if x = c then o1 else o2) := by
  by_cases h : x = c
  · rw [if_pos h, h]; exact k1
  · rw [if_neg h]; exact k2 h
theorem g_same {lv' : List (Nat × Value)} (h : lv = lv') (k : GS K X M σ pc lv' st o) : GS K X M σ pc lv st o := h ▸ k
end MORE
def FU : Nat := 100000
section CALL4
variable {ρ : Type} {K : Mem × ρ → State → Prop} {X : GX} {M M' : MI} {σ : Mem} {pc pc' : Nat} {lv : List (Nat × Value)} {st stk : List Value} {y : MethodName} {as : (Nat → Nat) → List Value} {idx n : Nat}
theorem g_callVI {oc : Option (Mem × Int32)} {f : Mem × Int32 → Option (Mem × ρ)} (hC : CT y M' enI as σ oc) (ok : OKV y M' n) (fit : FIT M' M) (lk : ML M.2.2.1 idx y) {b ci : Nat} {fl : List (Nat × Nat × Nat)} {q : vw_C} (hs : shp b = .inl (ci, fl)) (hb : b < NO) (hc : classes[ci]? = some q) (hq : q.1 = y.cls) (As : List Value) (has : as (xad X) = .ref (xad X b) :: As) (hst : stk = As.reverse ++ .ref (xad X b) :: st) (hn : As.length = n) (hroom : (st.map fun v => v.category).sum ≤ 8) (d : At M.1 pc (.invokevirtual idx) 3 pc')
    (kk : ∀ q, GS K X M q.1 pc' lv (.int q.2 :: st) (f q)) : GS K X M σ pc lv stk (oc.bind f) := g_callV hC ok fit lk hs hb hc hq As has hst hn hroom d (fun q _ => kk q)
theorem g_callSI {oc : Option (Mem × Int32)} {f : Mem × Int32 → Option (Mem × ρ)} (hC : CT y M' enI as σ oc) (ok : OKS y M' n) (fit : FIT M' M) (lk : ML M.2.2.1 idx y) (hst : stk = (as (xad X)).reverse ++ st) (hn : (as (xad X)).length = n) (hroom : (st.map fun v => v.category).sum ≤ 8) (d : At M.1 pc (.invokestatic idx) 3 pc')
    (kk : ∀ q, GS K X M q.1 pc' lv (.int q.2 :: st) (f q)) : GS K X M σ pc lv stk (oc.bind f) := g_callS hC ok fit lk hst hn hroom d (fun q _ => kk q)
theorem g_callVJ {oc : Option (Mem × Int64)} {f : Mem × Int64 → Option (Mem × ρ)} (hC : CT y M' enJ as σ oc) (ok : OKV y M' n) (fit : FIT M' M) (lk : ML M.2.2.1 idx y) {b ci : Nat} {fl : List (Nat × Nat × Nat)} {q : vw_C} (hs : shp b = .inl (ci, fl)) (hb : b < NO) (hc : classes[ci]? = some q) (hq : q.1 = y.cls) (As : List Value) (has : as (xad X) = .ref (xad X b) :: As) (hst : stk = As.reverse ++ .ref (xad X b) :: st) (hn : As.length = n) (hroom : (st.map fun v => v.category).sum ≤ 8) (d : At M.1 pc (.invokevirtual idx) 3 pc')
    (kk : ∀ q, GS K X M q.1 pc' lv (.long q.2 :: st) (f q)) : GS K X M σ pc lv stk (oc.bind f) := g_callV hC ok fit lk hs hb hc hq As has hst hn hroom d (fun q _ => kk q)
theorem g_callSJ {oc : Option (Mem × Int64)} {f : Mem × Int64 → Option (Mem × ρ)} (hC : CT y M' enJ as σ oc) (ok : OKS y M' n) (fit : FIT M' M) (lk : ML M.2.2.1 idx y) (hst : stk = (as (xad X)).reverse ++ st) (hn : (as (xad X)).length = n) (hroom : (st.map fun v => v.category).sum ≤ 8) (d : At M.1 pc (.invokestatic idx) 3 pc')
    (kk : ∀ q, GS K X M q.1 pc' lv (.long q.2 :: st) (f q)) : GS K X M σ pc lv stk (oc.bind f) := g_callS hC ok fit lk hst hn hroom d (fun q _ => kk q)
theorem g_callVV {oc : Option (Mem × Unit)} {f : Mem × Unit → Option (Mem × ρ)} (hC : CT y M' enV as σ oc) (ok : OKV y M' n) (fit : FIT M' M) (lk : ML M.2.2.1 idx y) {b ci : Nat} {fl : List (Nat × Nat × Nat)} {q : vw_C} (hs : shp b = .inl (ci, fl)) (hb : b < NO) (hc : classes[ci]? = some q) (hq : q.1 = y.cls) (As : List Value) (has : as (xad X) = .ref (xad X b) :: As) (hst : stk = As.reverse ++ .ref (xad X b) :: st) (hn : As.length = n) (hroom : (st.map fun v => v.category).sum ≤ 8) (d : At M.1 pc (.invokevirtual idx) 3 pc')
    (kk : ∀ q, GS K X M q.1 pc' lv (st) (f q)) : GS K X M σ pc lv stk (oc.bind f) := g_callV hC ok fit lk hs hb hc hq As has hst hn hroom d (fun q _ => kk q)
theorem g_callSV {oc : Option (Mem × Unit)} {f : Mem × Unit → Option (Mem × ρ)} (hC : CT y M' enV as σ oc) (ok : OKS y M' n) (fit : FIT M' M) (lk : ML M.2.2.1 idx y) (hst : stk = (as (xad X)).reverse ++ st) (hn : (as (xad X)).length = n) (hroom : (st.map fun v => v.category).sum ≤ 8) (d : At M.1 pc (.invokestatic idx) 3 pc')
    (kk : ∀ q, GS K X M q.1 pc' lv (st) (f q)) : GS K X M σ pc lv stk (oc.bind f) := g_callS hC ok fit lk hst hn hroom d (fun q _ => kk q)
theorem g_callVR {a mm : Nat} {oc : Option (Mem × (Option Nat))} {f : Mem × (Option Nat) → Option (Mem × ρ)} (hC : CT y M' (enR a mm) as σ oc) (ok : OKV y M' n) (fit : FIT M' M) (lk : ML M.2.2.1 idx y) {b ci : Nat} {fl : List (Nat × Nat × Nat)} {q : vw_C} (hs : shp b = .inl (ci, fl)) (hb : b < NO) (hc : classes[ci]? = some q) (hq : q.1 = y.cls) (As : List Value) (has : as (xad X) = .ref (xad X b) :: As) (hst : stk = As.reverse ++ .ref (xad X b) :: st) (hn : As.length = n) (hroom : (st.map fun v => v.category).sum ≤ 8) (d : At M.1 pc (.invokevirtual idx) 3 pc')
    (kk : ∀ q, GS K X M q.1 pc' lv (va_rf (q.2.map (fun x => xad X (a + mm * x))) :: st) (f q)) : GS K X M σ pc lv stk (oc.bind f) := g_callV hC ok fit lk hs hb hc hq As has hst hn hroom d (fun q _ => kk q)
theorem g_callSR {a mm : Nat} {oc : Option (Mem × (Option Nat))} {f : Mem × (Option Nat) → Option (Mem × ρ)} (hC : CT y M' (enR a mm) as σ oc) (ok : OKS y M' n) (fit : FIT M' M) (lk : ML M.2.2.1 idx y) (hst : stk = (as (xad X)).reverse ++ st) (hn : (as (xad X)).length = n) (hroom : (st.map fun v => v.category).sum ≤ 8) (d : At M.1 pc (.invokestatic idx) 3 pc')
    (kk : ∀ q, GS K X M q.1 pc' lv (va_rf (q.2.map (fun x => xad X (a + mm * x))) :: st) (f q)) : GS K X M σ pc lv stk (oc.bind f) := g_callS hC ok fit lk hst hn hroom d (fun q _ => kk q)
end CALL4
def rl (r : Nat) : Nat := if r < 6 then 40 else if r < 10 then 60 else 16
theorem sh_X4 {r : Nat} (h : r < 11) : shp (4 + 2 * r) = .inl (4, [(3, 5 + 2 * r, 0), (0, 401, r)]) := by
  match r, h with
  | 0, _ | 1, _ | 2, _ | 3, _ | 4, _ | 5, _ | 6, _ | 7, _ | 8, _ | 9, _ | 10, _ => rfl
  | n + 11, h => omega
theorem sh_cells {r : Nat} (h : r < 11) : shp (5 + 2 * r) = .inr (0, rl r, 400, r) := by
  match r, h with
  | 0, _ | 1, _ | 2, _ | 3, _ | 4, _ | 5, _ | 6, _ | 7, _ | 8, _ | 9, _ | 10, _ => rfl
  | n + 11, h => omega
theorem sh_X1 {r : Nat} (h : r < 41) : shp (28 + r) = .inl (1, [(0, 100, r), (0, 101, r), (0, 102, r), (0, 103, r), (2, 104, r)]) := by
  match r, h with
  | 0, _ | 1, _ | 2, _ | 3, _ | 4, _ | 5, _ | 6, _ | 7, _ | 8, _ | 9, _ | 10, _ | 11, _ | 12, _ | 13, _ | 14, _ | 15, _ | 16, _ | 17, _ | 18, _ | 19, _ | 20, _ | 21, _ | 22, _ | 23, _ | 24, _ | 25, _ | 26, _ | 27, _ | 28, _ | 29, _ | 30, _ | 31, _ | 32, _ | 33, _ | 34, _ | 35, _ | 36, _ | 37, _ | 38, _ | 39, _ | 40, _ => rfl
  | n + 41, h => omega
theorem sh_X2 {r : Nat} (h : r < 4) : shp (69 + 4 * r) = .inl (2, [(3, 70 + 4 * r, 0), (3, 71 + 4 * r, 0), (3, 72 + 4 * r, 0), (0, 203, r), (0, 204, r)]) := by
  match r, h with
  | 0, _ | 1, _ | 2, _ | 3, _ => rfl
  | n + 4, h => omega
theorem sh_plaws {r : Nat} (h : r < 4) : shp (70 + 4 * r) = .inr (4, 8, 200, r) := by
  match r, h with
  | 0, _ | 1, _ | 2, _ | 3, _ => rfl
  | n + 4, h => omega
theorem sh_pdeeds {r : Nat} (h : r < 4) : shp (71 + 4 * r) = .inr (1, 40, 201, r) := by
  match r, h with
  | 0, _ | 1, _ | 2, _ | 3, _ => rfl
  | n + 4, h => omega
theorem sh_pinks {r : Nat} (h : r < 4) : shp (72 + 4 * r) = .inr (0, 6, 202, r) := by
  match r, h with
  | 0, _ | 1, _ | 2, _ | 3, _ => rfl
  | n + 4, h => omega
theorem no_X4 {r : Nat} (h : r < 11) : 4 + 2 * r < NO := by unfold NO; omega
theorem no_cells {r : Nat} (h : r < 11) : 5 + 2 * r < NO := by unfold NO; omega
theorem no_X1 {r : Nat} (h : r < 41) : 28 + r < NO := by unfold NO; omega
theorem no_X2 {r : Nat} (h : r < 4) : 69 + 4 * r < NO := by unfold NO; omega
theorem no_plaws {r : Nat} (h : r < 4) : 70 + 4 * r < NO := by unfold NO; omega
theorem no_pdeeds {r : Nat} (h : r < 4) : 71 + 4 * r < NO := by unfold NO; omega
theorem no_pinks {r : Nat} (h : r < 4) : 72 + 4 * r < NO := by unfold NO; omega
set_option maxRecDepth 100000 in
theorem inX0 : ∀ w ∈ u_ws RX0 TX0 5, w ∈ tb := by decide +kernel
set_option maxRecDepth 100000 in
theorem inX1 : ∀ w ∈ u_ws RX1 TX1 5, w ∈ tb := by decide +kernel
set_option maxRecDepth 100000 in
theorem inX2 : ∀ w ∈ u_ws RX2 TX2 5, w ∈ tb := by decide +kernel
set_option maxRecDepth 100000 in
theorem inX3 : ∀ w ∈ u_ws RX3 TX3 2, w ∈ tb := by decide +kernel
set_option maxRecDepth 100000 in
theorem inX4 : ∀ w ∈ u_ws RX4 TX4 2, w ∈ tb := by decide +kernel
set_option maxRecDepth 100000 in
theorem inX5 : ∀ w ∈ u_ws RX5 TX5 4, w ∈ tb := by decide +kernel
set_option maxRecDepth 100000 in
theorem inX6 : ∀ w ∈ u_ws RX6 TX6 6, w ∈ tb := by decide +kernel
set_option maxRecDepth 100000 in
theorem inX7 : ∀ w ∈ u_ws RX7 TX7 16, w ∈ tb := by decide +kernel
set_option maxRecDepth 100000 in
theorem inX8 : ∀ w ∈ u_ws RX8 TX8 31, w ∈ tb := by decide +kernel
