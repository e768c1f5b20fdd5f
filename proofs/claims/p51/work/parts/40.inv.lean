/-! what stands between two calls of the law -/
/-- views that answer are not worth more than all facts -/
def SV (Z : ZT) : Prop := ∀ v, 0 ≤ v → v < Z 11 0 3 → Z 14 0 v = 0 → Z 13 0 v ≤ Z 6 0 3
def IV (n : Int) (Wd : List Int) (Z : ZT) : Prop := WG Z ∧ Z 0 0 5 = n ∧ (2 ≤ n ∧ n ≤ 3) ∧ (∀ d, 0 ≤ d → d < n → Wd.getD d.toNat 0 = Z 2 d 3) ∧ SV Z
theorem IV.of {n : Int} {Wd : List Int} {S T : ZT} (h : IV n Wd S) (hg : WG T) (h0 : T 0 0 5 = S 0 0 5) (h2 : ∀ d, T 2 d 3 = S 2 d 3) (hs : SV T) : IV n Wd T :=
  ⟨hg, h0.trans h.2.1, h.2.2.1, fun d a b => by rw [h2]; exact h.2.2.2.1 d a b, hs⟩
theorem SV.of {S T : ZT} (h : SV S) (h6 : T 6 0 3 = S 6 0 3) (h11 : T 11 0 3 = S 11 0 3) (h13 : ∀ v, T 13 0 v = S 13 0 v) (h14 : ∀ v, T 14 0 v = S 14 0 v) : SV T := by
  intro v a b c
  rw [h13, h6]
  exact h v a (by rw [← h11]; exact b) (by rw [← h14]; exact c)
theorem SV.stale {S T : ZT} (h11 : T 11 0 3 = S 11 0 3) (h14 : ∀ v, T 14 0 v = STLV S v) : SV T := by
  intro v a b c
  rw [h14] at c
  unfold STLV at c
  rw [if_pos ⟨a, by omega⟩] at c
  exact absurd c (by decide)
theorem IV.sp {n : Int} {Wd : List Int} {S Z : ZT} (h : IV n Wd S) (hS : SP S Z) : IV n Wd Z :=
  h.of (h.1.sp hS) (by rw [hS.1 0 rfl]) (fun d => by rw [hS.1 2 rfl]) (h.2.2.2.2.of (by rw [hS.1 6 rfl]) (by rw [hS.1 11 rfl]) (fun v => by rw [hS.1 13 rfl]) (fun v => by rw [hS.1 14 rfl]))
theorem SV.fr {ks : List Nat} {S T : ZT} (h : SV S) (hF : FRM ks S T) (k6 : 6 ∉ ks) (k11 : 11 ∉ ks) (k13 : 13 ∉ ks) (k14 : 14 ∉ ks) : SV T :=
  h.of (by rw [hF.1 6 rfl k6]) (by rw [hF.1 11 rfl k11]) (fun v => by rw [hF.1 13 rfl k13]) (fun v => by rw [hF.1 14 rfl k14])
theorem IV.addMember {n : Int} {Wd : List Int} {S T : ZT} {d p : Int} (h : IV n Wd S) (hM : M_addMember S d p T) (d0 : 0 ≤ d) (d1 : d < S 0 0 5) (p0 : 0 ≤ p) (p1 : p < S 2 d 4) (hp : S 4 d p ≠ S 2 d 3) (hs : S 2 d 4 < 24) : IV n Wd T :=
  h.of (h.1.addMember hM d0 d1 p0 p1 hp hs) (by rw [hM.1.1 0 rfl (by decide)]) (fun i => by rw [hM.2.1, if_neg (by omega)]) (h.2.2.2.2.fr hM.1 (by decide) (by decide) (by decide) (by decide))
theorem IV.move {n : Int} {Wd : List Int} {S T : ZT} {d m p : Int} (h : IV n Wd S) (hM : M_move S d m p T) (d0 : 0 ≤ d) (d1 : d < S 0 0 5) (m0 : 0 ≤ m) (m1 : m < S 2 d 4) (p0 : 0 ≤ p) (p1 : p < S 2 d 4) (hne : m ≠ 0) (hp : S 4 d p = S 4 d m - 1) : IV n Wd T :=
  h.of (h.1.move hM d0 d1 m0 m1 p0 p1 hne hp) (by rw [hM.1.1 0 rfl (by decide)]) (fun i => by rw [hM.1.1 2 rfl (by decide)]) (SV.stale (by rw [hM.1.1 11 rfl (by decide)]) hM.2.2)
theorem IV.leaveOut {n : Int} {Wd : List Int} {S T : ZT} {d m b : Int} (h : IV n Wd S) (hM : M_leaveOut S d m b T) (hb : b = 0 ∨ b = 1) : IV n Wd T :=
  h.of (h.1.leaveOut hM hb) (by rw [hM.1.1 0 rfl (by decide)]) (fun i => by rw [hM.1.1 2 rfl (by decide)]) (h.2.2.2.2.fr hM.1 (by decide) (by decide) (by decide) (by decide))
theorem IV.goTo {n : Int} {Wd : List Int} {S T : ZT} {d m : Int} (h : IV n Wd S) (hM : M_goTo S d m T) (d1 : d < S 0 0 5) (m0 : 0 ≤ m) (m1 : m < S 2 d 4) : IV n Wd T :=
  h.of (h.1.goTo hM d1 m0 m1) (by rw [hM.1.1 0 rfl (by decide)]) (fun i => by rw [hM.2, if_neg (by omega)]) (h.2.2.2.2.fr hM.1 (by decide) (by decide) (by decide) (by decide))
theorem IV.add {n : Int} {Wd : List Int} {S T : ZT} {v : Int} (h : IV n Wd S) (hM : M_add S v T) (v0 : -10000 ≤ v) (v1 : v ≤ 10000) (hl : ∀ d, 0 ≤ d → d < S 0 0 5 → S 4 d (S 2 d 5) = S 2 d 3) (hf : S 6 0 3 < 80) : IV n Wd T :=
  h.of (h.1.add hM v0 v1 hl hf) (by rw [hM.1.1 0 rfl (by decide)]) (fun i => by rw [hM.1.1 2 rfl (by decide)]) (SV.stale (by rw [hM.1.1 11 rfl (by decide)]) hM.2.2.2.2)
theorem IV.drop {n : Int} {Wd : List Int} {S T : ZT} {q : Int} (h : IV n Wd S) (hM : M_drop S q T) (q0 : 0 ≤ q) (q1 : q < S 6 0 3) : IV n Wd T :=
  h.of (h.1.drop hM q0 q1) (by rw [hM.1.1 0 rfl (by decide)]) (fun i => by rw [hM.1.1 2 rfl (by decide)]) (SV.stale (by rw [hM.1.1 11 rfl (by decide)]) hM.2.2.2.2)
theorem IV.bare {n : Int} {Wd : List Int} {S T : ZT} {b : Int} (h : IV n Wd S) (hM : M_0 S 8 b T) (hb : b = 0 ∨ b = 1) : IV n Wd T :=
  h.of (h.1.bare hM hb) (by rw [hM.2, if_neg (by decide)]) (fun i => by rw [hM.1.1 2 rfl (by decide)]) (h.2.2.2.2.fr hM.1 (by decide) (by decide) (by decide) (by decide))
theorem M_0.z (S : ZT) (f v : Int) : M_0 S f v (zS S 0 0 f v) := ⟨(FRM.of (SP.rf S) _).st (by simp) (by decide) _ _ _, fun j => by rw [zS_w]; simp⟩
theorem IV.lev {n : Int} {Wd : List Int} {S : ZT} {L : Int} (h : IV n Wd S) (hL : LOK S L) : IV n Wd (zS S 0 0 6 L) :=
  h.of (h.1.levels (M_0.z S 6 L) hL) (by rw [(M_0.z S 6 L).2, if_neg (by decide)]) (fun i => by rw [(M_0.z S 6 L).1.1 2 rfl (by decide)]) (h.2.2.2.2.fr (M_0.z S 6 L).1 (by decide) (by decide) (by decide) (by decide))
theorem IV.keep {n : Int} {Wd : List Int} {S T : ZT} (h : IV n Wd S) (hM : M_keep S T) (hv : S 11 0 3 < 6) : IV n Wd T := by
  have h6 : T 6 0 3 = S 6 0 3 := by rw [hM.1.1 6 rfl (by decide)]
  refine h.of (h.1.keep hM hv) (by rw [hM.1.1 0 rfl (by decide)]) (fun i => by rw [hM.1.1 2 rfl (by decide)]) (fun v v0 v1 v2 => ?_)
  rw [hM.2.2.2.1, h6]
  rw [hM.2.2.2.2] at v2
  rw [hM.2.1] at v1
  by_cases e : v = S 11 0 3
  · rw [if_pos e]; exact (CELLS_in h.1.1 _).2
  · rw [if_neg e]
    rw [if_neg e] at v2
    exact h.2.2.2.2 v v0 (by omega) v2
theorem IV.dropView {n : Int} {Wd : List Int} {S T : ZT} {q : Int} (h : IV n Wd S) (hM : M_dropView S q T) (q0 : 0 ≤ q) (q1 : q < S 11 0 3) : IV n Wd T := by
  have h6 : T 6 0 3 = S 6 0 3 := by rw [hM.1.1 6 rfl (by decide)]
  refine h.of (h.1.dropView hM q0 q1) (by rw [hM.1.1 0 rfl (by decide)]) (fun i => by rw [hM.1.1 2 rfl (by decide)]) (fun v v0 v1 v2 => ?_)
  rw [hM.2.2.2.1, h6]
  rw [hM.2.2.2.2] at v2
  rw [hM.2.1] at v1
  unfold gapF at *
  by_cases e : q ≤ v ∧ v < S 11 0 3 - 1
  · rw [if_pos e]
    rw [if_pos e] at v2
    exact h.2.2.2.2 (v + 1) (by omega) (by omega) v2
  · rw [if_neg e]
    rw [if_neg e] at v2
    exact h.2.2.2.2 v v0 (by omega) v2
theorem IV.refresh {n : Int} {Wd : List Int} {S T : ZT} {q : Int} (h : IV n Wd S) (hM : M_refresh S q T) : IV n Wd T := by
  have h6 : T 6 0 3 = S 6 0 3 := by rw [hM.1.1 6 rfl (by decide)]
  have h11 : T 11 0 3 = S 11 0 3 := by rw [hM.1.1 11 rfl (by decide)]
  refine h.of (h.1.refresh hM) (by rw [hM.1.1 0 rfl (by decide)]) (fun i => by rw [hM.1.1 2 rfl (by decide)]) (fun v v0 v1 v2 => ?_)
  rw [hM.2.1, h6]
  rw [hM.2.2] at v2
  by_cases e : v = q
  · rw [if_pos e]; exact (CELLS_in h.1.1 _).2
  · rw [if_neg e]
    rw [if_neg e] at v2
    exact h.2.2.2.2 v v0 (by omega) v2
theorem IV.axes {n : Int} {Wd : List Int} {S : ZT} {r rl w wl : Int} (h : IV n Wd S) (r0 : 0 ≤ r) (r1 : r < S 0 0 5) (l0 : 0 ≤ rl) (l1 : rl ≤ S 2 r 3) (w0 : 0 ≤ w) (w1 : w < S 0 0 5) (m0 : 0 ≤ wl) (m1 : wl ≤ S 2 w 3) (hne : r ≠ w) : IV n Wd (axSt S r rl w wl) := by
  have hk : ∀ k : Nat, k ≠ 0 → k ≠ 15 → axSt S r rl w wl k = S k := fun k a b => axSt_k S r rl w wl a b
  refine h.of ⟨h.1.1.of_AX r0 r1 l0 l1 w0 w1 m0 m1 hne, by rw [hk 13 (by decide) (by decide)]; exact h.1.2⟩ (by rw [axSt_0]; rfl) (fun i => by rw [hk 2 (by decide) (by decide)]) (h.2.2.2.2.of ?_ ?_ ?_ ?_)
  · rw [hk 6 (by decide) (by decide)]
  · rw [hk 11 (by decide) (by decide)]
  · intro v; rw [hk 13 (by decide) (by decide)]
  · intro v; rw [hk 14 (by decide) (by decide)]
theorem iv_drF {n : Int} {Wd : List Int} (d : Int) : ∀ (k : Nat) (S : ZT), IV n Wd S → 0 ≤ d → d < S 0 0 5 → IV n Wd (drF d k S)
  | 0, _, h, _, _ => h
  | k + 1, S, h, d0, d1 => by
    have eD : drF d (k + 1) S = if (kids S d).length = 0 then S else drF d k (zS S 2 d 5 ((kids S d).getD (rkF (lsum S d) (kids S d).length 0).toNat 0)) := rfl
    rw [eD]
    by_cases e : (kids S d).length = 0
    · rw [if_pos e]; exact h
    · rw [if_neg e]
      have hk := kids_ok h.1.1 d0 d1
      have hr := rkF_in (lsum S d) (kids S d).length 0 (by omega) (by omega)
      have hm := hk.2 _ (getD_mem (W := kids S d) (j := rkF (lsum S d) (kids S d).length 0) hr.1 hr.2.1)
      refine iv_drF d k _ (h.goTo (M_goTo.z S d _) d1 hm.1 hm.2) d0 ?_
      rw [zS_k (by decide)]; exact d1
theorem IV.fi {n : Int} {Wd : List Int} {S Z : ZT} {k : Int} (h : FI S k Z) (hn : S 0 0 5 = n) (h2 : 2 ≤ n ∧ n ≤ 3) (hW : ∀ d, 0 ≤ d → d < n → Wd.getD d.toNat 0 = S 2 d 3) : IV n Wd Z := by
  obtain ⟨h1, ⟨h3, h4, -, -⟩, -, h5⟩ := h
  exact ⟨h1, h3.trans hn, h2, fun d a b => by rw [(h4 d).1]; exact hW d a b, fun v a b _ => by omega⟩
theorem IV.ad {n : Int} {Wd : List Int} {S Z : ZT} (h : IV n Wd S) (hS : SP (zS S 0 0 6 (adF S 256).2) Z) : IV n Wd Z := (h.lev (ad_is h.1.1).2.1).sp hS
