def mFl : List (Nat × Nat × Nat) := [(0, 12, 1020), (1, 12, 1000), (11, 13, 2), (12, 13, 144), (13, 13, 144), (14, 13, 576), (15, 13, 576), (16, 13, 8), (17, 13, 84), (18, 16, 128), (19, 16, 8), (23, 13, 40), (24, 13, 40), (25, 13, 40), (26, 13, 40), (27, 13, 40), (32, 13, 60), (33, 13, 60), (34, 13, 60), (35, 13, 60), (36, 13, 60), (37, 13, 60), (38, 13, 60), (39, 16, 60), (41, 14, 64), (43, 14, 2665), (44, 13, 2665)]
def shMod (S : Pl) (ma : Nat → Nat) : Prop := is S 10 (ma 0) ∧ (∀ q ∈ mFl, pR S (100 + q.1) (ma 0) = some (ma (q.1 + 1)) ∧ is S q.2.1 (ma (q.1 + 1)) ∧ pN S (ma (q.1 + 1)) = q.2.2) ∧ ∀ i j, i ≤ 45 → j ≤ 45 → ma i = ma j → i = j
theorem mr_1 {S : Pl} {ma : Nat → Nat} (h : shMod S ma) : pR S 100 (ma 0) = some (ma 1) := (h.2.1 (0, 12, 1020) (List.mem_of_getElem? (i := 0) rfl)).1
theorem mk_1 {S : Pl} {ma : Nat → Nat} (h : shMod S ma) : is S 12 (ma 1) := (h.2.1 (0, 12, 1020) (List.mem_of_getElem? (i := 0) rfl)).2.1
theorem mn_1 {S : Pl} {ma : Nat → Nat} (h : shMod S ma) : pN S (ma 1) = 1020 := (h.2.1 (0, 12, 1020) (List.mem_of_getElem? (i := 0) rfl)).2.2
theorem mr_2 {S : Pl} {ma : Nat → Nat} (h : shMod S ma) : pR S 101 (ma 0) = some (ma 2) := (h.2.1 (1, 12, 1000) (List.mem_of_getElem? (i := 1) rfl)).1
theorem mk_2 {S : Pl} {ma : Nat → Nat} (h : shMod S ma) : is S 12 (ma 2) := (h.2.1 (1, 12, 1000) (List.mem_of_getElem? (i := 1) rfl)).2.1
theorem mn_2 {S : Pl} {ma : Nat → Nat} (h : shMod S ma) : pN S (ma 2) = 1000 := (h.2.1 (1, 12, 1000) (List.mem_of_getElem? (i := 1) rfl)).2.2
theorem mr_12 {S : Pl} {ma : Nat → Nat} (h : shMod S ma) : pR S 111 (ma 0) = some (ma 12) := (h.2.1 (11, 13, 2) (List.mem_of_getElem? (i := 2) rfl)).1
theorem mk_12 {S : Pl} {ma : Nat → Nat} (h : shMod S ma) : is S 13 (ma 12) := (h.2.1 (11, 13, 2) (List.mem_of_getElem? (i := 2) rfl)).2.1
theorem mn_12 {S : Pl} {ma : Nat → Nat} (h : shMod S ma) : pN S (ma 12) = 2 := (h.2.1 (11, 13, 2) (List.mem_of_getElem? (i := 2) rfl)).2.2
theorem mr_13 {S : Pl} {ma : Nat → Nat} (h : shMod S ma) : pR S 112 (ma 0) = some (ma 13) := (h.2.1 (12, 13, 144) (List.mem_of_getElem? (i := 3) rfl)).1
theorem mk_13 {S : Pl} {ma : Nat → Nat} (h : shMod S ma) : is S 13 (ma 13) := (h.2.1 (12, 13, 144) (List.mem_of_getElem? (i := 3) rfl)).2.1
theorem mn_13 {S : Pl} {ma : Nat → Nat} (h : shMod S ma) : pN S (ma 13) = 144 := (h.2.1 (12, 13, 144) (List.mem_of_getElem? (i := 3) rfl)).2.2
theorem mr_14 {S : Pl} {ma : Nat → Nat} (h : shMod S ma) : pR S 113 (ma 0) = some (ma 14) := (h.2.1 (13, 13, 144) (List.mem_of_getElem? (i := 4) rfl)).1
theorem mk_14 {S : Pl} {ma : Nat → Nat} (h : shMod S ma) : is S 13 (ma 14) := (h.2.1 (13, 13, 144) (List.mem_of_getElem? (i := 4) rfl)).2.1
theorem mn_14 {S : Pl} {ma : Nat → Nat} (h : shMod S ma) : pN S (ma 14) = 144 := (h.2.1 (13, 13, 144) (List.mem_of_getElem? (i := 4) rfl)).2.2
theorem mr_15 {S : Pl} {ma : Nat → Nat} (h : shMod S ma) : pR S 114 (ma 0) = some (ma 15) := (h.2.1 (14, 13, 576) (List.mem_of_getElem? (i := 5) rfl)).1
theorem mk_15 {S : Pl} {ma : Nat → Nat} (h : shMod S ma) : is S 13 (ma 15) := (h.2.1 (14, 13, 576) (List.mem_of_getElem? (i := 5) rfl)).2.1
theorem mn_15 {S : Pl} {ma : Nat → Nat} (h : shMod S ma) : pN S (ma 15) = 576 := (h.2.1 (14, 13, 576) (List.mem_of_getElem? (i := 5) rfl)).2.2
theorem mr_16 {S : Pl} {ma : Nat → Nat} (h : shMod S ma) : pR S 115 (ma 0) = some (ma 16) := (h.2.1 (15, 13, 576) (List.mem_of_getElem? (i := 6) rfl)).1
theorem mk_16 {S : Pl} {ma : Nat → Nat} (h : shMod S ma) : is S 13 (ma 16) := (h.2.1 (15, 13, 576) (List.mem_of_getElem? (i := 6) rfl)).2.1
theorem mn_16 {S : Pl} {ma : Nat → Nat} (h : shMod S ma) : pN S (ma 16) = 576 := (h.2.1 (15, 13, 576) (List.mem_of_getElem? (i := 6) rfl)).2.2
theorem mr_17 {S : Pl} {ma : Nat → Nat} (h : shMod S ma) : pR S 116 (ma 0) = some (ma 17) := (h.2.1 (16, 13, 8) (List.mem_of_getElem? (i := 7) rfl)).1
theorem mk_17 {S : Pl} {ma : Nat → Nat} (h : shMod S ma) : is S 13 (ma 17) := (h.2.1 (16, 13, 8) (List.mem_of_getElem? (i := 7) rfl)).2.1
theorem mn_17 {S : Pl} {ma : Nat → Nat} (h : shMod S ma) : pN S (ma 17) = 8 := (h.2.1 (16, 13, 8) (List.mem_of_getElem? (i := 7) rfl)).2.2
theorem mr_18 {S : Pl} {ma : Nat → Nat} (h : shMod S ma) : pR S 117 (ma 0) = some (ma 18) := (h.2.1 (17, 13, 84) (List.mem_of_getElem? (i := 8) rfl)).1
theorem mk_18 {S : Pl} {ma : Nat → Nat} (h : shMod S ma) : is S 13 (ma 18) := (h.2.1 (17, 13, 84) (List.mem_of_getElem? (i := 8) rfl)).2.1
theorem mn_18 {S : Pl} {ma : Nat → Nat} (h : shMod S ma) : pN S (ma 18) = 84 := (h.2.1 (17, 13, 84) (List.mem_of_getElem? (i := 8) rfl)).2.2
theorem mr_19 {S : Pl} {ma : Nat → Nat} (h : shMod S ma) : pR S 118 (ma 0) = some (ma 19) := (h.2.1 (18, 16, 128) (List.mem_of_getElem? (i := 9) rfl)).1
theorem mk_19 {S : Pl} {ma : Nat → Nat} (h : shMod S ma) : is S 16 (ma 19) := (h.2.1 (18, 16, 128) (List.mem_of_getElem? (i := 9) rfl)).2.1
theorem mn_19 {S : Pl} {ma : Nat → Nat} (h : shMod S ma) : pN S (ma 19) = 128 := (h.2.1 (18, 16, 128) (List.mem_of_getElem? (i := 9) rfl)).2.2
theorem mr_20 {S : Pl} {ma : Nat → Nat} (h : shMod S ma) : pR S 119 (ma 0) = some (ma 20) := (h.2.1 (19, 16, 8) (List.mem_of_getElem? (i := 10) rfl)).1
theorem mk_20 {S : Pl} {ma : Nat → Nat} (h : shMod S ma) : is S 16 (ma 20) := (h.2.1 (19, 16, 8) (List.mem_of_getElem? (i := 10) rfl)).2.1
theorem mn_20 {S : Pl} {ma : Nat → Nat} (h : shMod S ma) : pN S (ma 20) = 8 := (h.2.1 (19, 16, 8) (List.mem_of_getElem? (i := 10) rfl)).2.2
theorem mr_24 {S : Pl} {ma : Nat → Nat} (h : shMod S ma) : pR S 123 (ma 0) = some (ma 24) := (h.2.1 (23, 13, 40) (List.mem_of_getElem? (i := 11) rfl)).1
theorem mk_24 {S : Pl} {ma : Nat → Nat} (h : shMod S ma) : is S 13 (ma 24) := (h.2.1 (23, 13, 40) (List.mem_of_getElem? (i := 11) rfl)).2.1
theorem mn_24 {S : Pl} {ma : Nat → Nat} (h : shMod S ma) : pN S (ma 24) = 40 := (h.2.1 (23, 13, 40) (List.mem_of_getElem? (i := 11) rfl)).2.2
theorem mr_25 {S : Pl} {ma : Nat → Nat} (h : shMod S ma) : pR S 124 (ma 0) = some (ma 25) := (h.2.1 (24, 13, 40) (List.mem_of_getElem? (i := 12) rfl)).1
theorem mk_25 {S : Pl} {ma : Nat → Nat} (h : shMod S ma) : is S 13 (ma 25) := (h.2.1 (24, 13, 40) (List.mem_of_getElem? (i := 12) rfl)).2.1
theorem mn_25 {S : Pl} {ma : Nat → Nat} (h : shMod S ma) : pN S (ma 25) = 40 := (h.2.1 (24, 13, 40) (List.mem_of_getElem? (i := 12) rfl)).2.2
theorem mr_26 {S : Pl} {ma : Nat → Nat} (h : shMod S ma) : pR S 125 (ma 0) = some (ma 26) := (h.2.1 (25, 13, 40) (List.mem_of_getElem? (i := 13) rfl)).1
theorem mk_26 {S : Pl} {ma : Nat → Nat} (h : shMod S ma) : is S 13 (ma 26) := (h.2.1 (25, 13, 40) (List.mem_of_getElem? (i := 13) rfl)).2.1
theorem mn_26 {S : Pl} {ma : Nat → Nat} (h : shMod S ma) : pN S (ma 26) = 40 := (h.2.1 (25, 13, 40) (List.mem_of_getElem? (i := 13) rfl)).2.2
theorem mr_27 {S : Pl} {ma : Nat → Nat} (h : shMod S ma) : pR S 126 (ma 0) = some (ma 27) := (h.2.1 (26, 13, 40) (List.mem_of_getElem? (i := 14) rfl)).1
theorem mk_27 {S : Pl} {ma : Nat → Nat} (h : shMod S ma) : is S 13 (ma 27) := (h.2.1 (26, 13, 40) (List.mem_of_getElem? (i := 14) rfl)).2.1
theorem mn_27 {S : Pl} {ma : Nat → Nat} (h : shMod S ma) : pN S (ma 27) = 40 := (h.2.1 (26, 13, 40) (List.mem_of_getElem? (i := 14) rfl)).2.2
theorem mr_28 {S : Pl} {ma : Nat → Nat} (h : shMod S ma) : pR S 127 (ma 0) = some (ma 28) := (h.2.1 (27, 13, 40) (List.mem_of_getElem? (i := 15) rfl)).1
theorem mk_28 {S : Pl} {ma : Nat → Nat} (h : shMod S ma) : is S 13 (ma 28) := (h.2.1 (27, 13, 40) (List.mem_of_getElem? (i := 15) rfl)).2.1
theorem mn_28 {S : Pl} {ma : Nat → Nat} (h : shMod S ma) : pN S (ma 28) = 40 := (h.2.1 (27, 13, 40) (List.mem_of_getElem? (i := 15) rfl)).2.2
theorem mr_33 {S : Pl} {ma : Nat → Nat} (h : shMod S ma) : pR S 132 (ma 0) = some (ma 33) := (h.2.1 (32, 13, 60) (List.mem_of_getElem? (i := 16) rfl)).1
theorem mk_33 {S : Pl} {ma : Nat → Nat} (h : shMod S ma) : is S 13 (ma 33) := (h.2.1 (32, 13, 60) (List.mem_of_getElem? (i := 16) rfl)).2.1
theorem mn_33 {S : Pl} {ma : Nat → Nat} (h : shMod S ma) : pN S (ma 33) = 60 := (h.2.1 (32, 13, 60) (List.mem_of_getElem? (i := 16) rfl)).2.2
theorem mr_34 {S : Pl} {ma : Nat → Nat} (h : shMod S ma) : pR S 133 (ma 0) = some (ma 34) := (h.2.1 (33, 13, 60) (List.mem_of_getElem? (i := 17) rfl)).1
theorem mk_34 {S : Pl} {ma : Nat → Nat} (h : shMod S ma) : is S 13 (ma 34) := (h.2.1 (33, 13, 60) (List.mem_of_getElem? (i := 17) rfl)).2.1
theorem mn_34 {S : Pl} {ma : Nat → Nat} (h : shMod S ma) : pN S (ma 34) = 60 := (h.2.1 (33, 13, 60) (List.mem_of_getElem? (i := 17) rfl)).2.2
theorem mr_35 {S : Pl} {ma : Nat → Nat} (h : shMod S ma) : pR S 134 (ma 0) = some (ma 35) := (h.2.1 (34, 13, 60) (List.mem_of_getElem? (i := 18) rfl)).1
theorem mk_35 {S : Pl} {ma : Nat → Nat} (h : shMod S ma) : is S 13 (ma 35) := (h.2.1 (34, 13, 60) (List.mem_of_getElem? (i := 18) rfl)).2.1
theorem mn_35 {S : Pl} {ma : Nat → Nat} (h : shMod S ma) : pN S (ma 35) = 60 := (h.2.1 (34, 13, 60) (List.mem_of_getElem? (i := 18) rfl)).2.2
theorem mr_36 {S : Pl} {ma : Nat → Nat} (h : shMod S ma) : pR S 135 (ma 0) = some (ma 36) := (h.2.1 (35, 13, 60) (List.mem_of_getElem? (i := 19) rfl)).1
theorem mk_36 {S : Pl} {ma : Nat → Nat} (h : shMod S ma) : is S 13 (ma 36) := (h.2.1 (35, 13, 60) (List.mem_of_getElem? (i := 19) rfl)).2.1
theorem mn_36 {S : Pl} {ma : Nat → Nat} (h : shMod S ma) : pN S (ma 36) = 60 := (h.2.1 (35, 13, 60) (List.mem_of_getElem? (i := 19) rfl)).2.2
theorem mr_37 {S : Pl} {ma : Nat → Nat} (h : shMod S ma) : pR S 136 (ma 0) = some (ma 37) := (h.2.1 (36, 13, 60) (List.mem_of_getElem? (i := 20) rfl)).1
theorem mk_37 {S : Pl} {ma : Nat → Nat} (h : shMod S ma) : is S 13 (ma 37) := (h.2.1 (36, 13, 60) (List.mem_of_getElem? (i := 20) rfl)).2.1
theorem mn_37 {S : Pl} {ma : Nat → Nat} (h : shMod S ma) : pN S (ma 37) = 60 := (h.2.1 (36, 13, 60) (List.mem_of_getElem? (i := 20) rfl)).2.2
theorem mr_38 {S : Pl} {ma : Nat → Nat} (h : shMod S ma) : pR S 137 (ma 0) = some (ma 38) := (h.2.1 (37, 13, 60) (List.mem_of_getElem? (i := 21) rfl)).1
theorem mk_38 {S : Pl} {ma : Nat → Nat} (h : shMod S ma) : is S 13 (ma 38) := (h.2.1 (37, 13, 60) (List.mem_of_getElem? (i := 21) rfl)).2.1
theorem mn_38 {S : Pl} {ma : Nat → Nat} (h : shMod S ma) : pN S (ma 38) = 60 := (h.2.1 (37, 13, 60) (List.mem_of_getElem? (i := 21) rfl)).2.2
theorem mr_39 {S : Pl} {ma : Nat → Nat} (h : shMod S ma) : pR S 138 (ma 0) = some (ma 39) := (h.2.1 (38, 13, 60) (List.mem_of_getElem? (i := 22) rfl)).1
theorem mk_39 {S : Pl} {ma : Nat → Nat} (h : shMod S ma) : is S 13 (ma 39) := (h.2.1 (38, 13, 60) (List.mem_of_getElem? (i := 22) rfl)).2.1
theorem mn_39 {S : Pl} {ma : Nat → Nat} (h : shMod S ma) : pN S (ma 39) = 60 := (h.2.1 (38, 13, 60) (List.mem_of_getElem? (i := 22) rfl)).2.2
theorem mr_40 {S : Pl} {ma : Nat → Nat} (h : shMod S ma) : pR S 139 (ma 0) = some (ma 40) := (h.2.1 (39, 16, 60) (List.mem_of_getElem? (i := 23) rfl)).1
theorem mk_40 {S : Pl} {ma : Nat → Nat} (h : shMod S ma) : is S 16 (ma 40) := (h.2.1 (39, 16, 60) (List.mem_of_getElem? (i := 23) rfl)).2.1
theorem mn_40 {S : Pl} {ma : Nat → Nat} (h : shMod S ma) : pN S (ma 40) = 60 := (h.2.1 (39, 16, 60) (List.mem_of_getElem? (i := 23) rfl)).2.2
theorem mr_42 {S : Pl} {ma : Nat → Nat} (h : shMod S ma) : pR S 141 (ma 0) = some (ma 42) := (h.2.1 (41, 14, 64) (List.mem_of_getElem? (i := 24) rfl)).1
theorem mk_42 {S : Pl} {ma : Nat → Nat} (h : shMod S ma) : is S 14 (ma 42) := (h.2.1 (41, 14, 64) (List.mem_of_getElem? (i := 24) rfl)).2.1
theorem mn_42 {S : Pl} {ma : Nat → Nat} (h : shMod S ma) : pN S (ma 42) = 64 := (h.2.1 (41, 14, 64) (List.mem_of_getElem? (i := 24) rfl)).2.2
theorem mr_44 {S : Pl} {ma : Nat → Nat} (h : shMod S ma) : pR S 143 (ma 0) = some (ma 44) := (h.2.1 (43, 14, 2665) (List.mem_of_getElem? (i := 25) rfl)).1
theorem mk_44 {S : Pl} {ma : Nat → Nat} (h : shMod S ma) : is S 14 (ma 44) := (h.2.1 (43, 14, 2665) (List.mem_of_getElem? (i := 25) rfl)).2.1
theorem mn_44 {S : Pl} {ma : Nat → Nat} (h : shMod S ma) : pN S (ma 44) = 2665 := (h.2.1 (43, 14, 2665) (List.mem_of_getElem? (i := 25) rfl)).2.2
theorem mr_45 {S : Pl} {ma : Nat → Nat} (h : shMod S ma) : pR S 144 (ma 0) = some (ma 45) := (h.2.1 (44, 13, 2665) (List.mem_of_getElem? (i := 26) rfl)).1
theorem mk_45 {S : Pl} {ma : Nat → Nat} (h : shMod S ma) : is S 13 (ma 45) := (h.2.1 (44, 13, 2665) (List.mem_of_getElem? (i := 26) rfl)).2.1
theorem mn_45 {S : Pl} {ma : Nat → Nat} (h : shMod S ma) : pN S (ma 45) = 2665 := (h.2.1 (44, 13, 2665) (List.mem_of_getElem? (i := 26) rfl)).2.2
def FrFL : List Nat := [104, 105]
def FrF (I I' : Nat → Nat → Int32) : Prop := ∀ f, f ∉ FrFL → I' f = I f
theorem FrF.rf {I : Nat → Nat → Int32} : FrF I I := fun _ _ => rfl
theorem FrF.tr {I I' I'' : Nat → Nat → Int32} (h : FrF I I') (h2 : FrF I' I'') : FrF I I'' := fun f hf => (h2 f hf).trans (h f hf)
theorem FrF.up {I I' : Nat → Nat → Int32} {f a : Nat} {v : Int32} (hf : f ∈ FrFL) (h : FrF I I') : FrF I (up2 I' f a v) := fun g hg => by rw [up2_f (fun e => hg (by rw [e]; exact hf))]; exact h g hg
def FrNL : List Nat := [106, 107, 108, 109]
def FrN (I I' : Nat → Nat → Int32) : Prop := ∀ f, f ∉ FrNL → I' f = I f
theorem FrN.rf {I : Nat → Nat → Int32} : FrN I I := fun _ _ => rfl
theorem FrN.tr {I I' I'' : Nat → Nat → Int32} (h : FrN I I') (h2 : FrN I' I'') : FrN I I'' := fun f hf => (h2 f hf).trans (h f hf)
theorem FrN.up {I I' : Nat → Nat → Int32} {f a : Nat} {v : Int32} (hf : f ∈ FrNL) (h : FrN I I') : FrN I (up2 I' f a v) := fun g hg => by rw [up2_f (fun e => hg (by rw [e]; exact hf))]; exact h g hg
def FrML : List Nat := [104, 105, 106, 107, 108, 109, 122]
def FrM (I I' : Nat → Nat → Int32) : Prop := ∀ f, f ∉ FrML → I' f = I f
theorem FrM.rf {I : Nat → Nat → Int32} : FrM I I := fun _ _ => rfl
theorem FrM.tr {I I' I'' : Nat → Nat → Int32} (h : FrM I I') (h2 : FrM I' I'') : FrM I I'' := fun f hf => (h2 f hf).trans (h f hf)
theorem FrM.up {I I' : Nat → Nat → Int32} {f a : Nat} {v : Int32} (hf : f ∈ FrML) (h : FrM I I') : FrM I (up2 I' f a v) := fun g hg => by rw [up2_f (fun e => hg (by rw [e]; exact hf))]; exact h g hg
def FrWL : List Nat := [102, 103, 104, 105, 106, 107, 108, 109, 120, 121, 122]
def FrW (I I' : Nat → Nat → Int32) : Prop := ∀ f, f ∉ FrWL → I' f = I f
theorem FrW.rf {I : Nat → Nat → Int32} : FrW I I := fun _ _ => rfl
theorem FrW.tr {I I' I'' : Nat → Nat → Int32} (h : FrW I I') (h2 : FrW I' I'') : FrW I I'' := fun f hf => (h2 f hf).trans (h f hf)
theorem FrW.up {I I' : Nat → Nat → Int32} {f a : Nat} {v : Int32} (hf : f ∈ FrWL) (h : FrW I I') : FrW I (up2 I' f a v) := fun g hg => by rw [up2_f (fun e => hg (by rw [e]; exact hf))]; exact h g hg
def FrDL : List Nat := [129, 130, 131]
def FrD (I I' : Nat → Nat → Int32) : Prop := ∀ f, f ∉ FrDL → I' f = I f
theorem FrD.rf {I : Nat → Nat → Int32} : FrD I I := fun _ _ => rfl
theorem FrD.tr {I I' I'' : Nat → Nat → Int32} (h : FrD I I') (h2 : FrD I' I'') : FrD I I'' := fun f hf => (h2 f hf).trans (h f hf)
theorem FrD.up {I I' : Nat → Nat → Int32} {f a : Nat} {v : Int32} (hf : f ∈ FrDL) (h : FrD I I') : FrD I (up2 I' f a v) := fun g hg => by rw [up2_f (fun e => hg (by rw [e]; exact hf))]; exact h g hg
theorem FrF.m {I I' : Nat → Nat → Int32} (h : FrF I I') : FrM I I' := fun f hf => h f (fun q => hf ((by decide : ∀ x ∈ FrFL, x ∈ FrML) f q))
theorem FrN.m {I I' : Nat → Nat → Int32} (h : FrN I I') : FrM I I' := fun f hf => h f (fun q => hf ((by decide : ∀ x ∈ FrNL, x ∈ FrML) f q))
theorem FrM.w {I I' : Nat → Nat → Int32} (h : FrM I I') : FrW I I' := fun f hf => h f (fun q => hf ((by decide : ∀ x ∈ FrML, x ∈ FrWL) f q))
def FrQ (lo : Nat) (ma : Nat → Nat) (q q' : Nat → Nat → Int32) : Prop := ∀ a, (∀ j, lo ≤ j → j ≤ 20 → a ≠ ma j) → q' a = q a
theorem FrQ.rf {lo : Nat} {ma : Nat → Nat} {q : Nat → Nat → Int32} : FrQ lo ma q q := fun _ _ => rfl
theorem FrQ.tr {lo : Nat} {ma : Nat → Nat} {q q' q'' : Nat → Nat → Int32} (h : FrQ lo ma q q') (h2 : FrQ lo ma q' q'') : FrQ lo ma q q'' := fun a ha => (h2 a ha).trans (h a ha)
theorem FrQ.up {lo : Nat} {ma : Nat → Nat} {q q' : Nat → Nat → Int32} {j : Nat} {r : Nat → Int32} (h1 : lo ≤ j) (h2 : j ≤ 20) (h : FrQ lo ma q q') : FrQ lo ma q (va_up q' (ma j) r) := fun a ha => by rw [vu_n (ha j h1 h2)]; exact h a ha
theorem FrQ.ez {lo : Nat} {ma : Nat → Nat} {q x z : Nat → Nat → Int32} (e : z = x) (h : FrQ lo ma q x) : FrQ lo ma q z := by rw [e]; exact h
theorem row_keep {S : Pl} {ma : Nat → Nat} (hM : shMod S ma) {q z : Nat → Nat → Int32} {r : Nat → Int32} {i j : Nat} (ez : z = va_up q (ma j) r) (hi : i ≤ 45) (hj : j ≤ 45) (hne : i ≠ j) : z (ma i) = q (ma i) := by rw [ez, vu_n]; exact fun e => hne (hM.2.2 i j hi hj e)
def msz (f n : Int) : Nat := if f = 0 then (61 - n).toNat + 1 else 0
theorem msz_dec {f n f' n' : Int} {N : Nat} (h0 : f = 0) (h : f' ≠ 0 ∨ (n' = n + 1 ∧ n < 60)) (hm : msz f n < N + 1) : msz f' n' < N := by
  unfold msz at *
  rw [if_pos h0] at hm
  rcases h with h | h
  · rw [if_neg h]; omega
  · split <;> omega
theorem lm_inc {q q' qS : Nat → Nat → Int32} {a : Nat} {i0 i1 v w : Int32} (ez : q' = va_up q a (upd (q a) i1.toNatClampNeg w)) (hr : q a = qS a) (hi : i1 = i0) (e : v = q a i1.toNatClampNeg) (tw : w.toInt = v.toInt + 1) : (q' a i0.toNatClampNeg).toInt = (qS a i0.toNatClampNeg).toInt + 1 := by
  subst hi
  rw [ez, vu_s, pk_us, tw, e, hr]
theorem FrQ.lo {lo lo' : Nat} {ma : Nat → Nat} {q q' : Nat → Nat → Int32} (hl : lo' ≤ lo) (h : FrQ lo ma q q') : FrQ lo' ma q q' := fun a ha => h a (fun j h1 h2 => ha j (Nat.le_trans hl h1) h2)
theorem FrQ.at {lo : Nat} {ma : Nat → Nat} {q q' : Nat → Nat → Int32} {S : Pl} (hM : shMod S ma) (h : FrQ lo ma q q') {i : Nat} (hi : i ≤ 45) (hj : i < lo ∨ 20 < i) : q' (ma i) = q (ma i) := h _ (fun j h1 h2 e => by have := hM.2.2 i j hi (by omega) e; omega)
/-- what a row of misses may hold -/
def MsOK (r : Nat → Int32) : Prop := ∀ k, (r k).toInt = -100 ∨ (0 ≤ (r k).toInt ∧ (r k).toInt ≤ 100)
theorem MsOK_upd {r : Nat → Int32} {i : Nat} {v : Int32} (h : MsOK r) (hv : v.toInt = -100 ∨ (0 ≤ v.toInt ∧ v.toInt ≤ 100)) : MsOK (upd r i v) := fun k => by
  by_cases e : k = i
  · rw [e, pk_us]; exact hv
  · rw [pk_un e]; exact h k
def eM (I : Nat → Nat → Int32) (m0 : Nat) : Prop := 0 ≤ (I 103 m0).toInt ∧ (I 103 m0).toInt ≤ 1000 ∧ 0 ≤ (I 107 m0).toInt ∧ (I 107 m0).toInt ≤ (I 103 m0).toInt
theorem eM_of {I : Nat → Nat → Int32} {m0 : Nat} {a b : Int32} (ha : I 103 m0 = a) (hb : I 107 m0 = b) (h : 0 ≤ a.toInt ∧ a.toInt ≤ 1000 ∧ 0 ≤ b.toInt ∧ b.toInt ≤ a.toInt) : eM I m0 := by unfold eM; rw [ha, hb]; exact h
theorem FrF.e {I I' : Nat → Nat → Int32} {m0 : Nat} (h : FrF I I') (hE : eM I m0) : eM I' m0 := by unfold eM; rw [h 103 (by decide), h 107 (by decide)]; exact hE
theorem FrN.sz {I I' : Nat → Nat → Int32} (h : FrN I I') (m0 : Nat) : I' 103 m0 = I 103 m0 := by rw [h 103 (by decide)]
theorem FrM.rbb {I I' : Nat → Nat → Int32} {m0 : Nat} (h : FrM I I') (hb : 0 ≤ (I 121 m0).toInt ∧ (I 121 m0).toInt ≤ 1) : 0 ≤ (I' 121 m0).toInt ∧ (I' 121 m0).toInt ≤ 1 := by rw [h 121 (by decide)]; exact hb
theorem FrM.rb {I I' : Nat → Nat → Int32} (h : FrM I I') (m0 : Nat) : I' 121 m0 = I 121 m0 := by rw [h 121 (by decide)]
