section
theorem wq_probe : True := (fun _ => trivial) (@Stand.thenCaughtThrough)
end
