def rowC : List Cz → List Int
  | [] => []
  | c :: l => row1 c ++ rowC l
