theorem arF29 {g : GG} (h : full g) : arA g 29 (gI g) := ⟨h 29 (by decide), fun _ => rfl⟩
theorem arF38 {g : GG} (h : full g) : arA g 38 (gB g) := ⟨h 38 (by decide), fun _ => rfl⟩
theorem arF40 {g : GG} (h : full g) : arA g 40 (gI g) := ⟨h 40 (by decide), fun _ => rfl⟩
theorem arF41 {g : GG} (h : full g) : arA g 41 (gI g) := ⟨h 41 (by decide), fun _ => rfl⟩
theorem arF42 {g : GG} (h : full g) : arA g 42 (gI g) := ⟨h 42 (by decide), fun _ => rfl⟩
theorem arF43 {g : GG} (h : full g) : arA g 43 (gI g) := ⟨h 43 (by decide), fun _ => rfl⟩
theorem arF53 {g : GG} (h : ful5 g) : arA g 53 (gI g) := ⟨h 53 (by decide) (by decide), fun _ => rfl⟩
theorem arF54 {g : GG} (h : ful5 g) : arA g 54 (gZ g) := ⟨h 54 (by decide) (by decide), fun _ => rfl⟩
theorem arF55 {g : GG} (h : ful5 g) : arA g 55 (gI g) := ⟨h 55 (by decide) (by decide), fun _ => rfl⟩
theorem arF56 {g : GG} (h : ful5 g) : arA g 56 (gI g) := ⟨h 56 (by decide) (by decide), fun _ => rfl⟩
theorem arF57 {g : GG} (h : ful5 g) : arA g 57 (gI g) := ⟨h 57 (by decide) (by decide), fun _ => rfl⟩
theorem arF58 {g : GG} (h : ful5 g) : arA g 58 (gI g) := ⟨h 58 (by decide) (by decide), fun _ => rfl⟩
theorem arF59 {g : GG} (h : ful5 g) : arA g 59 (gI g) := ⟨h 59 (by decide) (by decide), fun _ => rfl⟩
theorem arF60 {g : GG} (h : ful5 g) : arA g 60 (gI g) := ⟨h 60 (by decide) (by decide), fun _ => rfl⟩
theorem arF61 {g : GG} (h : ful5 g) : arA g 61 (gI g) := ⟨h 61 (by decide) (by decide), fun _ => rfl⟩
theorem arF62 {g : GG} (h : ful5 g) : arA g 62 (gI g) := ⟨h 62 (by decide) (by decide), fun _ => rfl⟩
theorem arF63 {g : GG} (h : ful5 g) : arA g 63 (gI g) := ⟨h 63 (by decide) (by decide), fun _ => rfl⟩
theorem arF64 {g : GG} (h : ful5 g) : arA g 64 (gI g) := ⟨h 64 (by decide) (by decide), fun _ => rfl⟩
theorem arF65 {g : GG} (h : ful5 g) : arA g 65 (gI g) := ⟨h 65 (by decide) (by decide), fun _ => rfl⟩
theorem arF66 {g : GG} (h : ful5 g) : arA g 66 (gI g) := ⟨h 66 (by decide) (by decide), fun _ => rfl⟩
theorem obF0 {g : GG} (h : full g) : obA g 0 4 (fun r => [.ref (gA g 1), .ref (gA g 37), .ref (gA g 39), .ref (gA g 10), .ref (gA g 19), .ref (gA g 44), .ref (gA g 46), .ref (gA g 48), .ref (gA g 50), .int (r 9), .int (r 10), .int (r 11)]) := ⟨h 0 (by decide), fun _ => rfl⟩
theorem obF37 {g : GG} (h : full g) : obA g 37 3 (fun r => [.ref (gA g 38), .ref (gA g 28), .int (r 2), .int (r 3), .int (r 4), .int (r 5), .int (r 6), .int (r 7), .int (r 8), .int (r 9)]) := ⟨h 37 (by decide), fun _ => rfl⟩
theorem obF39 {g : GG} (h : full g) : obA g 39 0 (fun r => [.ref (gA g 40), .ref (gA g 41), .ref (gA g 42), .ref (gA g 43), .int (r 4), .int (r 5)]) := ⟨h 39 (by decide), fun _ => rfl⟩
theorem obF52 {g : GG} (h : ful5 g) : obA g 52 5 (fun r => [.ref (gA g 53), .ref (gA g 54), .ref (gA g 55), .ref (gA g 56), .int (r 4), .ref (gA g 57), .ref (gA g 58), .int (r 7), .ref (gA g 59), .int (r 9), .int (r 10), .int (r 11), .int (r 12), .int (r 13), .int (r 14), .int (r 15), .ref (gA g 60), .ref (gA g 61), .ref (gA g 62), .ref (gA g 63), .int (r 20), .int (r 21), .ref (gA g 64), .ref (gA g 65), .ref (gA g 66), .int (r 25)]) := ⟨h 52 (by decide) (by decide), fun _ => rfl⟩
