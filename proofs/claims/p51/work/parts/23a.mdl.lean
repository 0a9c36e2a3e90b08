/-! THE MODEL: what the document says of a run, as functions of numbers, lists, truths -/
abbrev Cp : Type := Nat × Nat
/-- events: kind, port, packet; packets: source, target, size, class; which rule holds for which packet -/
abbrev Hi : Type := (Nat → Nat × Nat × Nat) × (Nat → Nat × Nat × Nat × Nat) × (Nat → Nat → Bool)
def hKind (h : Hi) (e : Nat) : Nat := (h.1 e).1
def hPort (h : Hi) (e : Nat) : Nat := (h.1 e).2.1
def hPk (h : Hi) (e : Nat) : Nat := (h.1 e).2.2
def hSrc (h : Hi) (k : Nat) : Nat := (h.2.1 k).1
def hTgt (h : Hi) (k : Nat) : Nat := (h.2.1 k).2.1
def hSiz (h : Hi) (k : Nat) : Nat := (h.2.1 k).2.2.1
def hRnk (h : Hi) (k : Nat) : Nat := (h.2.1 k).2.2.2
def hHol (h : Hi) (k r : Nat) : Bool := h.2.2 k r
/-- settings: ports, rules; capacity, speed; policers: rate, burst; buffer, wait, age; rules that drop; rules that are supposed not to hold -/
abbrev Li : Type := (Nat × Nat) × (Nat → Nat × Nat) × (Nat → Option (Nat × Nat)) × (Nat × Nat × Nat) × (Nat → Bool) × (Nat → Bool)
def lPorts (l : Li) : Nat := l.1.1
def lRules (l : Li) : Nat := l.1.2
def lCap (l : Li) (p : Nat) : Nat := (l.2.1 p).1
def lSpeed (l : Li) (p : Nat) : Nat := (l.2.1 p).2
def lPol (l : Li) (p : Nat) : Option (Nat × Nat) := l.2.2.1 p
def lBuf (l : Li) : Nat := l.2.2.2.1.1
def lWait (l : Li) : Nat := l.2.2.2.1.2.1
def lAge (l : Li) : Nat := l.2.2.2.1.2.2
def lDrop (l : Li) (r : Nat) : Bool := l.2.2.2.2.1 r
def lIdle (l : Li) (r : Nat) : Bool := l.2.2.2.2.2 r
/-- a state: time, links, tokens, queues, table -/
abbrev Sa : Type := Nat × (Nat → Bool) × (Nat → Nat) × (Nat → List Cp) × (Nat → Option (Nat × Nat))
def sTime (s : Sa) : Nat := s.1
def sUp (s : Sa) (p : Nat) : Bool := s.2.1 p
def sTok (s : Sa) (p : Nat) : Nat := s.2.2.1 p
def sQ (s : Sa) (p : Nat) : List Cp := s.2.2.2.1 p
def sTab (s : Sa) (a : Nat) : Option (Nat × Nat) := s.2.2.2.2 a
/-- a drop: event, packet, port, cause, detail; a log: drops, fates by packet and port + 1, deliveries -/
abbrev Dr : Type := Nat × Nat × Int × Nat × Int
abbrev Lo : Type := List Dr × (Nat → Nat → Nat) × (Nat → Nat)
abbrev Ra : Type := Sa × Lo
def fu {α : Type} (f : Nat → α) (k : Nat) (v : α) : Nat → α := fun x => if x = k then v else f x
def fu2 {α : Type} (f : Nat → Nat → α) (k j : Nat) (v : α) : Nat → Nat → α := fun x y => if x = k ∧ y = j then v else f x y
def fillQ (h : Hi) (q : List Cp) : Nat := (q.map (fun c => hSiz h c.1)).sum
def fillP (h : Hi) (s : Sa) (p : Nat) : Nat := fillQ h (sQ s p)
def fillAll (h : Hi) (n : Nat) (s : Sa) : Nat := ((List.range n).map (fillP h s)).sum
def rkQ (h : Hi) (q : List Cp) (i : Nat) : Nat := hRnk h (q.getD i (0, 0)).1
/-- of the first n places the first one of the greatest number, the last one of the least -/
def hiK (f : Nat → Nat) : Nat → Nat
  | 0 => 0
  | n + 1 => if n = 0 then 0 else if f (hiK f n) < f n then n else hiK f n
def loK (f : Nat → Nat) : Nat → Nat
  | 0 => 0
  | n + 1 => if n = 0 then 0 else if f n ≤ f (loK f n) then n else loK f n
def setQ (s : Sa) (p : Nat) (q : List Cp) : Sa := (s.1, s.2.1, s.2.2.1, fu s.2.2.2.1 p q, s.2.2.2.2)
def setTok (s : Sa) (p t : Nat) : Sa := (s.1, s.2.1, fu s.2.2.1 p t, s.2.2.2)
def setTab (s : Sa) (a : Nat) (v : Option (Nat × Nat)) : Sa := (s.1, s.2.1, s.2.2.1, s.2.2.2.1, fu s.2.2.2.2 a v)
def setUp (s : Sa) (p : Nat) (b : Bool) : Sa := (s.1, fu s.2.1 p b, s.2.2)
def addDr (g : Lo) (e k : Nat) (port : Int) (cause : Nat) (detail : Int) : Lo := (g.1 ++ [(e, k, port, cause, detail)], fu2 g.2.1 k (port + 1).toNat 3, g.2.2)
def setFate (g : Lo) (k slot v : Nat) : Lo := (g.1, fu2 g.2.1 k slot v, g.2.2)
def addDel (g : Lo) (k p : Nat) : Lo := (g.1, fu2 g.2.1 k (p + 1) 2, fu g.2.2 p (g.2.2 p + 1))
/-- a copy is taken out of a queue and dropped -/
def outDr (e p i cause : Nat) (detail : Int) (r : Ra) : Ra :=
  (setQ r.1 p ((sQ r.1 p).eraseIdx i), addDr r.2 e ((sQ r.1 p).getD i (0, 0)).1 p cause detail)
/-- the rule that decides -/
def ruleA (h : Hi) (l : Li) (k : Nat) : Option Nat := (List.range (lRules l)).find? (fun r => !lIdle l r && hHol h k r)
/-- the port of the valid entry -/
def validA (l : Li) (s : Sa) (a : Nat) : Option Nat := match sTab s a with
  | some (p, t) => if sTime s - t ≤ lAge l then some p else none
  | none => none
def pushA (h : Hi) (cap siz e k p : Nat) : Nat → Ra → Ra
  | 0, r => r
  | n + 1, r => if fillP h r.1 p + siz ≤ cap then r else pushA h cap siz e k p n (outDr e p (loK (rkQ h (sQ r.1 p)) (sQ r.1 p).length) 8 k r)
def belowQ (h : Hi) (rank : Nat) (q : List Cp) : Nat := (q.map (fun c => if hRnk h c.1 < rank then hSiz h c.1 else 0)).sum
def putEnd (e k p : Nat) (r : Ra) : Ra := (setQ r.1 p (sQ r.1 p ++ [(k, sTime r.1)]), setFate r.2 k (p + 1) 1)
/-- a copy of the packet k for the port p; with how many were put -/
def putA (h : Hi) (l : Li) (e k p : Nat) (r : Ra) : Ra × Nat :=
  if lBuf l < fillAll h (lPorts l) r.1 + hSiz h k then ((r.1, addDr r.2 e k p 6 (-1)), 0)
  else if lCap l p + belowQ h (hRnk h k) (sQ r.1 p) < fillP h r.1 p + hSiz h k then ((r.1, addDr r.2 e k p 7 (-1)), 0)
  else (putEnd e k p (pushA h (lCap l p) (hSiz h k) e k p (sQ r.1 p).length r), 1)
def putsA (h : Hi) (l : Li) (e k : Nat) (way : Nat → Bool) : Nat → Ra → Ra × Nat
  | 0, r => (r, 0)
  | n + 1, r => let q := putsA h l e k way n r
    if way n then ((putA h l e k n q.1).1, q.2 + (putA h l e k n q.1).2) else q
def refA (e k cause : Nat) (detail : Int) (r : Ra) : Ra × Nat := ((r.1, addDr r.2 e k (-1) cause detail), 0)
/-- the policer lets the packet pass, or not -/
def policeA (l : Li) (s : Sa) (p siz : Nat) : Option Sa := match lPol l p with
  | none => some s
  | some _ => if sTok s p < siz then none else some (setTok s p (sTok s p - siz))
def arriveA (h : Hi) (l : Li) (e p k : Nat) (r : Ra) : Ra × Nat :=
  if sUp r.1 p = false then refA e k 1 (-1) r
  else match (match ruleA h l k with
    | some x => if lDrop l x then some x else none
    | none => none) with
  | some x => refA e k 2 x r
  | none => match policeA l r.1 p (hSiz h k) with
    | none => refA e k 3 (-1) r
    | some s1 =>
      let s2 := setTab s1 (hSrc h k) (some (p, sTime s1))
      match validA l s2 (hTgt h k) with
      | some w => if w = p then refA e k 4 (-1) (s2, r.2) else putsA h l e k (fun o => o == w) (lPorts l) (s2, r.2)
      | none => if (List.range (lPorts l)).all (fun o => o == p || !sUp s2 o) then refA e k 5 (-1) (s2, r.2)
        else putsA h l e k (fun o => o != p && sUp s2 o) (lPorts l) (s2, r.2)
/-- n deliveries at the port p -/
def delA (h : Hi) (p : Nat) : Nat → Ra → Ra
  | 0, r => r
  | n + 1, r => let i := hiK (rkQ h (sQ r.1 p)) (sQ r.1 p).length
    delA h p n (setQ r.1 p ((sQ r.1 p).eraseIdx i), addDel r.2 ((sQ r.1 p).getD i (0, 0)).1 p)
def delsA (h : Hi) (l : Li) : Nat → Ra → Ra × Nat
  | 0, r => (r, 0)
  | n + 1, r => let q := delsA h l n r
    if sUp q.1.1 n then (delA h n (min (lSpeed l n) (sQ q.1.1 n).length) q.1, q.2 + min (lSpeed l n) (sQ q.1.1 n).length) else q
def isStale (l : Li) (s : Sa) (c : Cp) : Bool := decide (lWait l ≤ sTime s - c.2)
def staleA (l : Li) (e p : Nat) (r : Ra) : Ra :=
  (setQ r.1 p ((sQ r.1 p).filter (fun c => !isStale l r.1 c)), ((sQ r.1 p).filter (isStale l r.1)).foldl (fun g c => addDr g e c.1 p 9 (-1)) r.2)
def stalesA (l : Li) (e : Nat) : Nat → Ra → Ra
  | 0, r => r
  | n + 1, r => staleA l e n (stalesA l e n r)
def refillA (l : Li) (s : Sa) : Nat → Nat := fun p => match lPol l p with
  | some (rate, burst) => if p < lPorts l then min (sTok s p + rate) burst else sTok s p
  | none => sTok s p
def tickA (h : Hi) (l : Li) (e : Nat) (r : Ra) : Ra × Nat :=
  let d := delsA h l (lPorts l) r
  let t := stalesA l e (lPorts l) d.1
  (((sTime t.1 + 1, t.1.2.1, refillA l t.1, t.1.2.2.2), t.2), d.2)
def loseA (e p : Nat) (r : Ra) : Ra × Nat :=
  (((sTime r.1, fu r.1.2.1 p false, r.1.2.2.1, fu r.1.2.2.2.1 p [], fun a => match sTab r.1 a with
    | some (x, t) => if x = p then none else some (x, t)
    | none => none), (sQ r.1 p).foldl (fun g c => addDr g e c.1 p 10 (-1)) r.2), (sQ r.1 p).length)
/-- an event happens; with what its call answers -/
def stepA (h : Hi) (l : Li) (e : Nat) (r : Ra) : Ra × Nat := match hKind h e with
  | 0 => arriveA h l e (hPort h e) (hPk h e) r
  | 1 => tickA h l e r
  | 2 => ((setUp r.1 (hPort h e) true, r.2), 0)
  | _ => loseA e (hPort h e) r
def beginA (l : Li) : Ra := ((0, (fun _ => true), (fun p => match lPol l p with
  | some (_, b) => b
  | none => 0), (fun _ => []), fun _ => none), [], (fun _ _ => 0), fun _ => 0)
/-- the run of the first n events without those that are left out -/
def runA (h : Hi) (l : Li) (out : Nat → Bool) : Nat → Ra
  | 0 => beginA l
  | n + 1 => if out n then runA h l out n else (stepA h l n (runA h l out n)).1
