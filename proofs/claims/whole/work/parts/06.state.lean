/-! MIRROR: what the class's methods compute, in Int32, word for word as the code does; places are Nats -/
section DkMirror
-- Network
def dk_speed (fl ar : Nat → Int32) (i j : Nat) : Int32 := 100 * fl i / ar j
def dk_per (fl ar : Nat → Int32) (i j : Nat) : Int64 := 1000 * (fl i).toInt64 * (fl i).toInt64 / ((ar j).toInt64 * (ar j).toInt64)
def dk_fall (le fi fl ar : Nat → Int32) (i j : Nat) : Int32 :=
  (if 1000000 < (le i).toInt64 * dk_per fl ar i j / 100 then 1000000 else (le i).toInt64 * dk_per fl ar i j / 100).toInt32 + fi i
def dk_allows (fl ar : Nat → Int32) (sp : Int32) (i j : Nat) : Int32 := if sp < dk_speed fl ar i j then 0 else 1
def dk_price (le pr : Nat → Int32) (i j : Nat) : Int32 := le i * pr j
/-- n places from i on are taken from src -/
def dk_cpL (src : Nat → Int32) : Nat → Nat → (Nat → Int32) → (Nat → Int32)
  | 0, _, f => f
  | n + 1, i, f => dk_cpL src n (i + 1) (upd f i (src i))
/-- its second loop: from node n down to 1 -/
def dk_up (fr : Nat → Int32) : Nat → (Nat → Int32) → (Nat → Int32)
  | 0, f => f
  | n + 1, f => dk_up fr n (upd f (fr (n + 1)).toNatClampNeg (f (fr (n + 1)).toNatClampNeg + f (n + 1)))
-- Curve
def dk_takes (cf cp : Nat → Int32) (k : Nat) (f p : Int32) : Int32 :=
  if nI k < 5 then (if nI k = 0 then 1 else if f ≤ cf (k - 1) then 0 else if cp (k - 1) < p then 0 else 1) else 0
def dk_pb (cf cp : Nat → Int32) (i : Nat) (f : Int32) : Int32 :=
  cp (i - 1) - ((cp (i - 1) - cp i) * (f - cf (i - 1)) + (cf i - cf (i - 1)) - 1) / (cf i - cf (i - 1))
/-- the loop of pressureAt: k points are left, the next is i -/
def dk_at (cf cp : Nat → Int32) (f : Int32) : Nat → Nat → Int32
  | 0, _ => 0
  | k + 1, i => if cf i < f then dk_at cf cp f k (i + 1) else dk_pb cf cp i f
def dk_gives (cf cp : Nat → Int32) (k : Nat) (f : Int32) : Int32 := if nI k = 0 then 300 else if cf 0 < f then dk_at cf cp f (k - 1) 1 else cp 0
-- Search
/-- trial sizes, trial pressures, sizes, pressures, found, cost, pressure -/
abbrev dk_SS : Type := (Nat → Int32) × (Nat → Int32) × (Nat → Int32) × (Nat → Int32) × Int32 × Int32 × Int32
def dk_better (en fd co ps p g : Int32) : Int32 := if fd = 0 then 1 else if p + en * g < co then 1 else if p + en * g = co then (if ps ≤ g then 0 else 1) else 0
def dk_keep (d : Nat) (en p g : Int32) (st : dk_SS) : dk_SS := (st.1, st.2.1, dk_cpL st.1 d 1 st.2.2.1, dk_cpL st.2.1 d 1 st.2.2.2.1, 1, p + en * g, g)
/-- n rounds of f from place i on -/
def dk_loop {α : Type} (f : Nat → α → α) : Nat → Nat → α → α
  | 0, _, x => x
  | n + 1, i, x => dk_loop f n (i + 1) (f i x)
def dk_fallAt (le fi fl ar : Nat → Int32) (sp : Int32) (i j : Nat) : Int32 := if dk_allows fl ar sp i j = 0 then (-1) else dk_fall le fi fl ar i j
def dk_updF (F : Nat → Nat → Int32) (i j : Nat) (v : Int32) : Nat → Nat → Int32 := fun a => if a = i then upd (F i) j v else F a
/-- noteFalls, its inner loop: n places from j on of row i; its outer loop: n rows from i on -/
def dk_nc (le fi fl ar : Nat → Int32) (sp : Int32) (i : Nat) : Nat → Nat → (Nat → Nat → Int32) → (Nat → Nat → Int32)
  | 0, _, F => F
  | n + 1, j, F => dk_nc le fi fl ar sp i n (j + 1) (dk_updF F i j (dk_fallAt le fi fl ar sp i j))
def dk_nr (le fi fl ar : Nat → Int32) (sp : Int32) (z : Nat) : Nat → Nat → (Nat → Nat → Int32) → (Nat → Nat → Int32)
  | 0, _, F => F
  | n + 1, i, F => dk_nr le fi fl ar sp z n (i + 1) (dk_nc le fi fl ar sp i z 0 F)
/-- placeSize on duct i with what goes on behind it -/
def dk_step (fr le pr : Nat → Int32) (F : Nat → Nat → Int32) (li en : Int32) (go : Int32 → Int32 → dk_SS → dk_SS) (i : Nat) (p g : Int32) (j : Nat) (st : dk_SS) : dk_SS :=
  if li < (if g < st.2.1 (fr i).toNatClampNeg + F i j then st.2.1 (fr i).toNatClampNeg + F i j else g) then st
  else if dk_better en st.2.2.2.2.1 st.2.2.2.2.2.1 st.2.2.2.2.2.2 (p + dk_price le pr i j) (if g < st.2.1 (fr i).toNatClampNeg + F i j then st.2.1 (fr i).toNatClampNeg + F i j else g) = 0 then st
  else go (p + dk_price le pr i j) (if g < st.2.1 (fr i).toNatClampNeg + F i j then st.2.1 (fr i).toNatClampNeg + F i j else g) (upd st.1 i (nI j), upd st.2.1 i (st.2.1 (fr i).toNatClampNeg + F i j), st.2.2)
/-- what a round of placeFrom does with size j in duct i -/
def dk_try (fr le pr : Nat → Int32) (F : Nat → Nat → Int32) (li en : Int32) (go : Int32 → Int32 → dk_SS → dk_SS) (i : Nat) (p g : Int32) (j : Nat) (st : dk_SS) : dk_SS := if F i j = -1 then st else dk_step fr le pr F li en go i p g j st
/-- placeFrom with k ducts left, duct i the next -/
def dk_place (d z : Nat) (fr le pr : Nat → Int32) (F : Nat → Nat → Int32) (li en : Int32) : Nat → Nat → Int32 → Int32 → dk_SS → dk_SS
  | 0, _, p, g, st => dk_keep d en p g st
  | k + 1, i, p, g, st => dk_loop (dk_try fr le pr F li en (dk_place d z fr le pr F li en k (i + 1)) i p g) z 0 st
/-- firstNodeOfGreatestPressure: k nodes are left, the next is i, the first of the greatest so far is b -/
def dk_first (pa : Nat → Int32) : Nat → Nat → Nat → Nat
  | 0, _, b => b
  | k + 1, i, b => dk_first pa k (i + 1) (if pa i ≤ pa b then b else i)
end DkMirror
def dk_N (cI cII : ClassId) (a : Nat → Nat) (fr : Nat → Int32) (le : Nat → Int32) (fi : Nat → Int32) (ne : Nat → Int32) (fl : Nat → Int32) (du : Int32) (ar : Nat → Int32) (pr : Nat → Int32) (sz : Int32) (sp : Int32) : va_W :=
  [(a 0, .inr (1, [.ref (a 1), .ref (a 2), .ref (a 3), .ref (a 4), .ref (a 5), .int du, .ref (a 6), .ref (a 7), .int sz, .int sp])),
   (a 1, .inl (cI, 7, .inl fr)),
   (a 2, .inl (cI, 7, .inl le)),
   (a 3, .inl (cI, 7, .inl fi)),
   (a 4, .inl (cI, 7, .inl ne)),
   (a 5, .inl (cI, 7, .inl fl)),
   (a 6, .inl (cI, 4, .inl ar)),
   (a 7, .inl (cI, 4, .inl pr))]
def dk_S (cI cII : ClassId) (a : Nat → Nat) (nw : Nat) (F : Nat → Nat → Int32) (ts : Nat → Int32) (tp : Nat → Int32) (li : Int32) (en : Int32) (so : Nat → Int32) (pa : Nat → Int32) (fd : Int32) (co : Int32) (ps : Int32) : va_W :=
  [(a 0, .inr (2, [.ref nw, .ref (a 1), .ref (a 2), .ref (a 3), .int li, .int en, .ref (a 4), .ref (a 5), .int fd, .int co, .int ps])),
   (a 1, .inl (cII, 7, .inr (.inr (.inr (.inr (fun i => if i < 7 then some (a (i + 6)) else none)))))),
   (a 2, .inl (cI, 7, .inl ts)),
   (a 3, .inl (cI, 7, .inl tp)),
   (a 4, .inl (cI, 7, .inl so)),
   (a 5, .inl (cI, 7, .inl pa)),
   (a 6, .inl (cI, 4, .inl (F 0))),
   (a 7, .inl (cI, 4, .inl (F 1))),
   (a 8, .inl (cI, 4, .inl (F 2))),
   (a 9, .inl (cI, 4, .inl (F 3))),
   (a 10, .inl (cI, 4, .inl (F 4))),
   (a 11, .inl (cI, 4, .inl (F 5))),
   (a 12, .inl (cI, 4, .inl (F 6)))]
def dk_X (cI cII : ClassId) (a : Nat → Nat) (nw : Nat) (cv : Nat) (bs : Nat) (ch : Nat) (ep : Int32) (ol : Int32) : va_W :=
  [(a 0, .inr (3, [.ref nw, .ref cv, .ref bs, .ref ch, .int ep, .int ol]))]
def dk_C (cI cII : ClassId) (a : Nat → Nat) (cf : Nat → Int32) (cp : Nat → Int32) (pt : Int32) : va_W :=
  [(a 0, .inr (0, [.ref (a 1), .ref (a 2), .int pt])),
   (a 1, .inl (cI, 5, .inl cf)),
   (a 2, .inl (cI, 5, .inl cp))]
theorem dk_row {cI cII : ClassId} {a : Nat → Nat} {nw : Nat} {F : Nat → Nat → Int32} {ts tp so pa : Nat → Int32} {li en fd co ps : Int32} {i : Nat} (h : i < 7) :
    (dk_S cI cII a nw F ts tp li en so pa fd co ps)[6 + i]? = some (a (i + 6), .inl (cI, 4, .inl (F i))) := by
  match i, h with
  | 0, _ => rfl
  | 1, _ => rfl
  | 2, _ => rfl
  | 3, _ => rfl
  | 4, _ => rfl
  | 5, _ => rfl
  | 6, _ => rfl
theorem dk_rowA {cI cII : ClassId} {a : Nat → Nat} {nw : Nat} {F : Nat → Nat → Int32} {ts tp so pa : Nat → Int32} {li en fd co ps : Int32} {w : va_W} {i : Nat} (h : i < 7) :
    (dk_S cI cII a nw F ts tp li en so pa fd co ps ++ w)[6 + i]? = some (a (i + 6), .inl (cI, 4, .inl (F i))) := by
  rw [List.getElem?_append_left (by show 6 + i < 13; omega)]
  exact dk_row h
theorem dk_rowSet {cI cII : ClassId} {a : Nat → Nat} {nw : Nat} {F : Nat → Nat → Int32} {ts tp so pa : Nat → Int32} {li en fd co ps : Int32} {i j : Nat} {v : Int32} (h : i < 7) :
    (dk_S cI cII a nw F ts tp li en so pa fd co ps).set (6 + i) (a (i + 6), .inl (cI, 4, .inl (upd (F i) j v))) = dk_S cI cII a nw (dk_updF F i j v) ts tp li en so pa fd co ps := by
  match i, h with
  | 0, _ => rfl
  | 1, _ => rfl
  | 2, _ => rfl
  | 3, _ => rfl
  | 4, _ => rfl
  | 5, _ => rfl
  | 6, _ => rfl
theorem dk_rowSetA {cI cII : ClassId} {a : Nat → Nat} {nw : Nat} {F : Nat → Nat → Int32} {ts tp so pa : Nat → Int32} {li en fd co ps : Int32} {w : va_W} {i j : Nat} {v : Int32} (h : i < 7) :
    (dk_S cI cII a nw F ts tp li en so pa fd co ps ++ w).set (6 + i) (a (i + 6), .inl (cI, 4, .inl (upd (F i) j v))) = dk_S cI cII a nw (dk_updF F i j v) ts tp li en so pa fd co ps ++ w := by
  rw [List.set_append_left _ _ (by show 6 + i < 13; omega), dk_rowSet h]
/-- a search's cells, its seven changing values as one -/
abbrev dk_SW (cI cII : ClassId) (a : Nat → Nat) (nw : Nat) (F : Nat → Nat → Int32) (li en : Int32) (st : dk_SS) : va_W := dk_S cI cII a nw F st.1 st.2.1 li en st.2.2.1 st.2.2.2.1 st.2.2.2.2.1 st.2.2.2.2.2.1 st.2.2.2.2.2.2
/-- the addresses of a search's cells: its own, its arrays', its rows' -/
def dk_adr (h0 q1 q2 q3 q4 q5 : Nat) (r : Nat → Nat) : Nat → Nat
  | 0 => h0
  | 1 => q1
  | 2 => q2
  | 3 => q3
  | 4 => q4
  | 5 => q5
  | k + 6 => r k
